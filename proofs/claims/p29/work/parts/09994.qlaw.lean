def Q_L_law (L : Nat) (hh hs hr ha : ISt) : Prop := ∀ V78 : Nat → ISt → ISt → ISt → ISt → Int → Int → Int → Int → Prop, ∀ V79 : Nat → ISt → ISt → ISt → ISt → Int → Int → Int → Int → Int → Prop, ∀ V116 : Nat → ISt → ISt → ISt → ISt → Int → Int → Int → Int → Int → Int → Int → Prop, ∀ V160 : Nat → ISt → ISt → ISt → ISt → Int → Int → Int → Int → Int → Int → Int → Int → Prop, ∀ V218 : Nat → ISt → ISt → ISt → ISt → Int → Int → Int → Int → Int → Int → Int → Int → Int → Prop, ∀ V234 : Nat → ISt → ISt → ISt → ISt → Int → Int → Int → Int → Int → Int → Int → Int → Int → Int → Prop, ∀ V250 : Nat → ISt → ISt → ISt → ISt → Int → Int → Int → Int → Int → Int → Int → Int → Int → Int → Int → Prop, ∀ V266 : Nat → ISt → ISt → ISt → ISt → Int → Int → Int → Int → Int → Int → Int → Int → Int → Int → Int → Int → Prop, ∀ V330 : Nat → ISt → ISt → ISt → ISt → Int → Int → Int → Int → Int → Int → Int → Prop, ∀ V331 : Nat → ISt → ISt → ISt → ISt → Int → Int → Int → Int → Int → Int → Int → Int → Prop, ∀ V339 : Nat → ISt → ISt → ISt → ISt → Int → Int → Int → Int → Int → Int → Int → Int → Int → Int → Int → Int → Int → Prop, ∀ V421 : Nat → ISt → ISt → ISt → ISt → Int → Int → Int → Int → Int → Int → Int → Int → Prop, ∀ V549 : Nat → ISt → ISt → ISt → ISt → Int → Int → Int → Int → Int → Int → Int → Int → Int → Int → Int → Int → Int → Prop, ∀ V611 : Nat → ISt → ISt → ISt → ISt → Int → Int → Int → Int → Int → Int → Int → Int → Int → Int → Int → Int → Int → Prop, ∀ V644 : Nat → ISt → ISt → ISt → ISt → Int → Int → Int → Int → Int → Int → Int → Int → Prop, ∀ V658 : Nat → ISt → ISt → ISt → ISt → Int → Int → Int → Int → Int → Int → Int → Int → Int → Prop, ∀ V749 : Nat → ISt → ISt → ISt → ISt → Int → Int → Int → Int → Int → Int → Int → Int → Int → Int → Prop, ∀ V756 : Nat → ISt → ISt → ISt → ISt → Int → Int → Int → Int → Int → Int → Int → Int → Prop, ∀ V757 : Nat → ISt → ISt → ISt → ISt → Int → Int → Int → Int → Int → Int → Int → Int → Int → Prop, ∀ V771 : Nat → ISt → ISt → ISt → ISt → Int → Int → Int → Int → Int → Int → Int → Int → Int → Int → Int → Int → Int → Prop, ∀ V806 : Nat → ISt → ISt → ISt → ISt → Int → Int → Int → Int → Int → Int → Int → Int → Int → Int → Int → Prop, ∀ V866 : Nat → ISt → ISt → ISt → ISt → Int → Int → Int → Int → Int → Int → Int → Int → Int → Int → Prop, ∀ V876 : Nat → ISt → ISt → ISt → ISt → Int → Int → Int → Int → Int → Int → Int → Int → Int → Int → Int → Prop, ∀ V895 : Nat → ISt → ISt → ISt → ISt → Int → Int → Int → Int → Int → Int → Int → Int → Int → Int → Int → Prop, ∀ V903 : Nat → ISt → ISt → ISt → ISt → Int → Int → Int → Int → Int → Int → Int → Int → Prop, ∀ V904 : Nat → ISt → ISt → ISt → ISt → Int → Int → Int → Int → Int → Int → Int → Int → Int → Prop, ∀ V919 : Nat → ISt → ISt → ISt → ISt → Int → Int → Int → Int → Int → Int → Int → Int → Int → Int → Int → Prop, ∀ V987 : Nat → ISt → ISt → ISt → ISt → Int → Int → Int → Int → Int → Int → Int → Int → Int → Int → Int → Int → Int → Prop, ∀ V1020 : Nat → ISt → ISt → ISt → ISt → Int → Int → Int → Int → Int → Int → Int → Int → Int → Prop, ∀ V1108 : Nat → ISt → ISt → ISt → ISt → Int → Int → Int → Int → Int → Int → Int → Int → Int → Int → Int → Int → Int → Prop, ∀ V1147 : Nat → ISt → ISt → ISt → ISt → Int → Int → Int → Int → Int → Int → Int → Int → Int → Prop, ∀ V1148 : Nat → ISt → ISt → ISt → ISt → Int → Int → Int → Int → Int → Int → Int → Int → Int → Int → Prop, ∀ V1172 : Nat → ISt → ISt → ISt → ISt → Int → Int → Int → Int → Int → Int → Int → Int → Int → Int → Prop, ∀ V1173 : Nat → ISt → ISt → ISt → ISt → Int → Int → Int → Int → Int → Int → Int → Int → Int → Int → Int → Prop, ∀ V1198 : Nat → ISt → ISt → ISt → ISt → Int → Int → Int → Int → Int → Int → Int → Int → Int → Int → Int → Int → Int → Prop, ∀ V1208 : Nat → ISt → ISt → ISt → ISt → Int → Int → Int → Int → Int → Int → Int → Int → Int → Int → Int → Int → Int → Prop, ∀ V1261 : Nat → ISt → ISt → ISt → ISt → Int → Int → Int → Int → Int → Int → Int → Int → Int → Prop, ∀ V1265 : Nat → ISt → ISt → ISt → ISt → Int → Int → Int → Int → Int → Int → Int → Int → Int → Prop, ∀ V1266 : Nat → ISt → ISt → ISt → ISt → Int → Int → Int → Int → Int → Int → Int → Int → Int → Int → Prop, ∀ V1290 : Nat → ISt → ISt → ISt → ISt → Int → Int → Int → Int → Int → Int → Int → Int → Int → Int → Int → Int → Int → Prop, ∀ V1358 : Nat → ISt → ISt → ISt → ISt → Int → Int → Int → Int → Int → Int → Int → Int → Int → Int → Int → Int → Int → Int → Prop, ∀ V1461 : Nat → ISt → ISt → ISt → ISt → Int → Int → Int → Int → Int → Int → Int → Int → Int → Int → Prop, ∀ V1489 : Nat → ISt → ISt → ISt → ISt → Int → Int → Int → Int → Int → Int → Int → Int → Int → Int → Int → Int → Prop, ∀ V1522 : Nat → ISt → ISt → ISt → ISt → Int → Int → Int → Int → Int → Int → Int → Int → Int → Int → Prop, ∀ V1559 : Nat → ISt → ISt → ISt → ISt → Int → Int → Int → Int → Int → Int → Int → Int → Int → Int → Int → Int → Int → Prop, ∀ V1672 : Nat → ISt → ISt → ISt → ISt → Int → Int → Int → Int → Int → Int → Int → Int → Int → Int → Int → Prop, ∀ V1770 : Nat → ISt → ISt → ISt → ISt → Int → Int → Int → Int → Int → Int → Int → Int → Prop, ∀ V1795 : Nat → ISt → ISt → ISt → ISt → Int → Int → Int → Int → Int → Int → Int → Prop, ∀ V1818 : Nat → ISt → ISt → ISt → ISt → Int → Int → Int → Int → Int → Int → Int → Prop, ∀ V1836 : Nat → ISt → ISt → ISt → ISt → Int → Int → Int → Int → Int → Int → Int → Prop, ∀ V1837 : Nat → ISt → ISt → ISt → ISt → Int → Int → Int → Int → Int → Int → Int → Int → Prop, ∀ V1897 : Nat → ISt → ISt → ISt → ISt → Int → Int → Int → Int → Int → Int → Int → Int → Int → Prop, ∀ V1912 : Nat → ISt → ISt → ISt → ISt → Int → Int → Int → Int → Int → Int → Int → Int → Int → Int → Prop, (∀ (k : Nat) (hh hs hr ha : ISt) (x9 x10 x11 x12 : Int), (V79 k hh hs hr ha x9 x10 x11 x12 (0 : Int)) → V78 k hh hs hr ha x9 x10 x11 x12) → (∀ (k : Nat) (hh hs hr ha : ISt) (x9 x10 x11 x12 t0 : Int), (inR (L : Int) ∧ (((40 : Int) ≤ (L : Int) → (inR (L : Int) ∧ (((80 : Int) ≤ (L : Int) → (V116 k hh hs hr ha x9 x10 x11 x12 t0 (210 : Int) (0 : Int))) ∧ (¬ (80 : Int) ≤ (L : Int) → (V116 k hh hs hr ha x9 x10 x11 x12 t0 ((2 : Int) * (L : Int)) (0 : Int)))))) ∧ (¬ (40 : Int) ≤ (L : Int) → (V116 k hh hs hr ha x9 x10 x11 x12 t0 (150 : Int) (0 : Int))))) → V79 k hh hs hr ha x9 x10 x11 x12 t0) → (∀ (k : Nat) (hh hs hr ha : ISt) (x9 x10 x11 x12 x13 x14 x15 : Int), (inR x15 ∧ inR x14 ∧ ((x14 ≤ x15 → (k ≤ 10000 ∧ x13 = 1)) ∧ (¬ x14 ≤ x15 → (inR x13 ∧ ((x13 = (0 : Int) → (k ≤ 10000 ∧ x13 = 1)) ∧ (¬ x13 = (0 : Int) → (inR x15 ∧ inR (L : Int) ∧ (((L : Int) ≤ x15 → (V160 k hh hs hr ha x9 x10 x11 x12 x13 x14 x15 (((((3070017 : Int) * x15) * x15) + ((104021 : Int) * x15)) + (179 : Int)))) ∧ (¬ (L : Int) ≤ x15 → ((0 ≤ x15 ∧ x15 < (L : Int)) ∧ (∀ z3 : Int, inR z3 → (V160 k hh hs hr ha x9 x10 x11 x12 x13 x14 x15 z3)))))))))))) → V116 k hh hs hr ha x9 x10 x11 x12 x13 x14 x15) → (∀ (k : Nat) (hh hs hr ha : ISt) (x9 x10 x11 x12 x13 x14 x15 t0 : Int), (∀ z4 : Int, inR z4 → (∀ z5 : Int, 0 ≤ z5 → z5 ≤ 268435455 → (inR x15 ∧ (((3 : Int) ≤ x15 → (inR x15 ∧ (((5 : Int) ≤ x15 → (inR x15 ∧ (((9 : Int) ≤ x15 → (inR x15 ∧ (((11 : Int) ≤ x15 → (∀ z6 : Int, 0 ≤ z6 → z6 ≤ 15 → (V218 k hh hs hr ha x9 x10 x11 x12 x13 x14 x15 z5 z6))) ∧ (¬ (11 : Int) ≤ x15 → (V218 k hh hs hr ha x9 x10 x11 x12 x13 x14 x15 z5 (4 : Int)))))) ∧ (¬ (9 : Int) ≤ x15 → (V218 k hh hs hr ha x9 x10 x11 x12 x13 x14 x15 z5 (2 : Int)))))) ∧ (¬ (5 : Int) ≤ x15 → (V218 k hh hs hr ha x9 x10 x11 x12 x13 x14 x15 z5 (1 : Int)))))) ∧ (¬ (3 : Int) ≤ x15 → (V218 k hh hs hr ha x9 x10 x11 x12 x13 x14 x15 z5 (0 : Int))))))) → V160 k hh hs hr ha x9 x10 x11 x12 x13 x14 x15 t0) → (∀ (k : Nat) (hh hs hr ha : ISt) (x9 x10 x11 x12 x13 x14 x15 x17 t0 : Int), (inR x10 ∧ ((¬ x10 = (0 : Int) → ((0 ≤ x17 ∧ x17 ≤ 2147483647) ∧ (0 < x10 ∧ x10 ≤ 2147483647) ∧ (∀ z7 : Int, 0 ≤ z7 → z7 < x10 → z7 ≤ x17 → (V234 k hh hs hr ha x9 x10 x11 x12 x13 x14 x15 x17 t0 z7)))) ∧ (x10 = (0 : Int) → (V234 k hh hs hr ha x9 x10 x11 x12 x13 x14 x15 x17 t0 (0 : Int))))) → V218 k hh hs hr ha x9 x10 x11 x12 x13 x14 x15 x17 t0) → (∀ (k : Nat) (hh hs hr ha : ISt) (x9 x10 x11 x12 x13 x14 x15 x17 x18 t0 : Int), (inR x11 ∧ ((¬ x11 = (0 : Int) → ((0 ≤ x17 ∧ x17 ≤ 2147483647) ∧ (0 < x11 ∧ x11 ≤ 2147483647) ∧ (∀ z8 : Int, 0 ≤ z8 → z8 < x11 → z8 ≤ x17 → (V250 k hh hs hr ha x9 x10 x11 x12 x13 x14 x15 x17 x18 t0 z8)))) ∧ (x11 = (0 : Int) → (V250 k hh hs hr ha x9 x10 x11 x12 x13 x14 x15 x17 x18 t0 (0 : Int))))) → V234 k hh hs hr ha x9 x10 x11 x12 x13 x14 x15 x17 x18 t0) → (∀ (k : Nat) (hh hs hr ha : ISt) (x9 x10 x11 x12 x13 x14 x15 x17 x18 x19 t0 : Int), (inR x12 ∧ ((¬ x12 = (0 : Int) → ((0 ≤ x17 ∧ x17 ≤ 2147483647) ∧ (0 < x12 ∧ x12 ≤ 2147483647) ∧ (∀ z9 : Int, 0 ≤ z9 → z9 < x12 → z9 ≤ x17 → (V266 k hh hs hr ha x9 x10 x11 x12 x13 x14 x15 x17 x18 x19 t0 z9)))) ∧ (x12 = (0 : Int) → (V266 k hh hs hr ha x9 x10 x11 x12 x13 x14 x15 x17 x18 x19 t0 (0 : Int))))) → V250 k hh hs hr ha x9 x10 x11 x12 x13 x14 x15 x17 x18 x19 t0) → (∀ (k : Nat) (hh hs hr ha : ISt) (x9 x10 x11 x12 x13 x14 x15 x17 x18 x19 x20 t0 : Int), ((0 ≤ x17 ∧ x17 ≤ 2147483647) ∧ (0 ≤ (5 : Int) ∧ (5 : Int) < 32) ∧ (∀ z10 : Int, 0 ≤ z10 → z10 ≤ x17 → ((0 ≤ z10 ∧ z10 ≤ 2147483647) ∧ (0 < (4 : Int) ∧ (4 : Int) ≤ 2147483647) ∧ (∀ z11 : Int, 0 ≤ z11 → z11 < (4 : Int) → z11 ≤ z10 → (inR x18 ∧ ((¬ x18 = (0 : Int) → (V339 k hh hs hr ha x9 x10 x11 x12 x13 x14 x15 x17 x18 x19 x20 t0 z11)) ∧ (x18 = (0 : Int) → (inR x9 ∧ (((10 : Int) ≤ x9 → (V339 k hh hs hr ha x9 x10 x11 x12 x13 x14 x15 x17 x18 x19 x20 t0 z11)) ∧ (¬ (10 : Int) ≤ x9 → ((0 ≤ x17 ∧ x17 ≤ 2147483647) ∧ (0 < (5 : Int) ∧ (5 : Int) ≤ 2147483647) ∧ (∀ z12 : Int, 0 ≤ z12 → z12 < (5 : Int) → z12 ≤ x17 → ((0 ≤ x9 ∧ x9 < 10) ∧ (∀ h13 : ISt, h13 = iset ha 0 x9.toNat ((2 : Int) + z12) → (k ≤ 10000 ∧ ∃ r14 : Int, Q_X4_waiting hh hs hr r14 ∧ ((0 ≤ x9 ∧ x9 < 10) ∧ (k ≤ 10000 ∧ Qn_X4_addTable hh hs hr (h13 0 x9.toNat) (fun (r15 : Int) (hh16 hs17 hr18 : ISt) => inR r15 ∧ inR x9 ∧ ((¬ r15 = x9 → (V330 k hh16 hs17 hr18 h13 x9 x10 x11 x12 x14 x15 x17)) ∧ (r15 = x9 → (k ≤ 10000 ∧ ∃ r19 : Int, Q_X4_waiting hh16 hs17 hr18 r19 ∧ (inR r19 ∧ inR r14 ∧ ((¬ r19 = r14 → (V330 k hh16 hs17 hr18 h13 x9 x10 x11 x12 x14 x15 x17)) ∧ (r19 = r14 → (V331 k hh16 hs17 hr18 h13 x9 x10 x11 x12 x14 x15 x17 (1 : Int)))))))))))))))))))))))))) → V266 k hh hs hr ha x9 x10 x11 x12 x13 x14 x15 x17 x18 x19 x20 t0) → (∀ (k : Nat) (hh hs hr ha : ISt) (x9 x10 x11 x12 x14 x15 x17 : Int), (V331 k hh hs hr ha x9 x10 x11 x12 x14 x15 x17 (0 : Int)) → V330 k hh hs hr ha x9 x10 x11 x12 x14 x15 x17) → (∀ (k : Nat) (hh hs hr ha : ISt) (x9 x10 x11 x12 x14 x15 x17 t0 : Int), (V1770 k hh hs hr ha (x9 + (1 : Int)) x10 x11 x12 t0 x14 x15 x17) → V331 k hh hs hr ha x9 x10 x11 x12 x14 x15 x17 t0) → (∀ (k : Nat) (hh hs hr ha : ISt) (x9 x10 x11 x12 x13 x14 x15 x17 x18 x19 x20 x21 x22 : Int), (inR x18 ∧ ((¬ x18 = (1 : Int) → (V549 k hh hs hr ha x9 x10 x11 x12 x13 x14 x15 x17 x18 x19 x20 x21 x22)) ∧ (x18 = (1 : Int) → (inR x11 ∧ (((8 : Int) ≤ x11 → (V549 k hh hs hr ha x9 x10 x11 x12 x13 x14 x15 x17 x18 x19 x20 x21 x22)) ∧ (¬ (8 : Int) ≤ x11 → ((0 ≤ x17 ∧ x17 ≤ 2147483647) ∧ (0 < (4 : Int) ∧ (4 : Int) ≤ 2147483647) ∧ (∀ z20 : Int, 0 ≤ z20 → z20 < (4 : Int) → z20 ≤ x17 → ((0 ≤ ((3 : Int) * x11) ∧ ((3 : Int) * x11) < 24) ∧ (∀ h21 : ISt, h21 = iset ha 5 ((3 : Int) * x11).toNat ((1 : Int) + z20) → ((0 ≤ ((3 : Int) * x11) ∧ ((3 : Int) * x11) < 24) ∧ ((0 ≤ x17 ∧ x17 ≤ 2147483647) ∧ (0 ≤ (2 : Int) ∧ (2 : Int) < 32) ∧ (∀ z22 : Int, 0 ≤ z22 → z22 ≤ x17 → ((0 ≤ ((3 : Int) * x11) ∧ ((3 : Int) * x11) < 24) ∧ ((0 ≤ z22 ∧ z22 ≤ 2147483647) ∧ (0 < ((13 : Int) - (h21 5 ((3 : Int) * x11).toNat)) ∧ ((13 : Int) - (h21 5 ((3 : Int) * x11).toNat)) ≤ 2147483647) ∧ (∀ z23 : Int, 0 ≤ z23 → z23 < ((13 : Int) - (h21 5 ((3 : Int) * x11).toNat)) → z23 ≤ z22 → ((0 ≤ (((3 : Int) * x11) + (1 : Int)) ∧ (((3 : Int) * x11) + (1 : Int)) < 24) ∧ (∀ h24 : ISt, h24 = iset h21 5 (((3 : Int) * x11) + (1 : Int)).toNat ((h21 5 ((3 : Int) * x11).toNat) + z23) → ((0 ≤ x17 ∧ x17 ≤ 2147483647) ∧ (0 ≤ (6 : Int) ∧ (6 : Int) < 32) ∧ (∀ z25 : Int, 0 ≤ z25 → z25 ≤ x17 → (∀ z26 : Int, 0 ≤ z26 → z26 ≤ 3 → ((0 ≤ (((3 : Int) * x11) + (2 : Int)) ∧ (((3 : Int) * x11) + (2 : Int)) < 24) ∧ (∀ h27 : ISt, h27 = iset h24 5 (((3 : Int) * x11) + (2 : Int)).toNat ((5 : Int) + (z26 * (15 : Int))) → (V421 k hh hs hr h27 x9 x10 x11 x12 x14 x15 x17 (0 : Int))))))))))))))))))))))))) → V339 k hh hs hr ha x9 x10 x11 x12 x13 x14 x15 x17 x18 x19 x20 x21 x22) → (∀ (k : Nat) (hh hs hr ha : ISt) (x9 x10 x11 x12 x14 x15 x17 x23 : Int), (inR x23 ∧ (((4 : Int) ≤ x23 → ((0 ≤ ((3 : Int) * x11) ∧ ((3 : Int) * x11) < 24) ∧ ((0 ≤ (((3 : Int) * x11) + (1 : Int)) ∧ (((3 : Int) * x11) + (1 : Int)) < 24) ∧ ((0 ≤ (((3 : Int) * x11) + (2 : Int)) ∧ (((3 : Int) * x11) + (2 : Int)) < 24) ∧ ((0 ≤ ((4 : Int) * x11) ∧ ((4 : Int) * x11) < 32) ∧ ((0 ≤ (((4 : Int) * x11) + (1 : Int)) ∧ (((4 : Int) * x11) + (1 : Int)) < 32) ∧ ((0 ≤ (((4 : Int) * x11) + (2 : Int)) ∧ (((4 : Int) * x11) + (2 : Int)) < 32) ∧ ((0 ≤ (((4 : Int) * x11) + (3 : Int)) ∧ (((4 : Int) * x11) + (3 : Int)) < 32) ∧ (k ≤ 10000 ∧ Qn_X4_addTitle hh hs hr (ha 5 ((3 : Int) * x11).toNat) (ha 5 (((3 : Int) * x11) + (1 : Int)).toNat) (ha 5 (((3 : Int) * x11) + (2 : Int)).toNat) (ha 4 ((4 : Int) * x11).toNat) (ha 4 (((4 : Int) * x11) + (1 : Int)).toNat) (ha 4 (((4 : Int) * x11) + (2 : Int)).toNat) (ha 4 (((4 : Int) * x11) + (3 : Int)).toNat) (fun (r35 : Int) (hh36 hs37 hr38 : ISt) => inR r35 ∧ inR x11 ∧ ((¬ r35 = x11 → (V1770 k hh36 hs37 hr38 ha x9 x10 (x11 + (1 : Int)) x12 (0 : Int) x14 x15 x17)) ∧ (r35 = x11 → (k ≤ 10000 ∧ ∃ r39 : Int, Qn_X4_depth hh36 hs37 hr38 x11 r39 ∧ (inR r39 ∧ ((¬ r39 = (0 : Int) → (V1770 k hh36 hs37 hr38 ha x9 x10 (x11 + (1 : Int)) x12 (0 : Int) x14 x15 x17)) ∧ (r39 = (0 : Int) → (V1770 k hh36 hs37 hr38 ha x9 x10 (x11 + (1 : Int)) x12 (1 : Int) x14 x15 x17))))))))))))))))) ∧ (¬ (4 : Int) ≤ x23 → ((0 ≤ x17 ∧ x17 ≤ 2147483647) ∧ (0 ≤ ((8 : Int) + ((3 : Int) * x23)) ∧ ((8 : Int) + ((3 : Int) * x23)) < 32) ∧ (∀ z40 : Int, 0 ≤ z40 → z40 ≤ x17 → (∀ z41 : Int, 0 ≤ z41 → z41 ≤ 7 → ((0 ≤ z41 ∧ z41 ≤ 2147483647) ∧ (0 < (6 : Int) ∧ (6 : Int) ≤ 2147483647) ∧ (∀ z42 : Int, 0 ≤ z42 → z42 < (6 : Int) → z42 ≤ z41 → ((0 ≤ (((4 : Int) * x11) + x23) ∧ (((4 : Int) * x11) + x23) < 32) ∧ (∀ h43 : ISt, h43 = iset ha 4 (((4 : Int) * x11) + x23).toNat z42 → (V421 k hh hs hr h43 x9 x10 x11 x12 x14 x15 x17 (x23 + (1 : Int))))))))))))) → V421 k hh hs hr ha x9 x10 x11 x12 x14 x15 x17 x23) → (∀ (k : Nat) (hh hs hr ha : ISt) (x9 x10 x11 x12 x13 x14 x15 x17 x18 x19 x20 x21 x22 : Int), (inR x18 ∧ ((¬ x18 = (2 : Int) → (V611 k hh hs hr ha x9 x10 x11 x12 x13 x14 x15 x17 x18 x19 x20 x21 x22)) ∧ (x18 = (2 : Int) → (inR x12 ∧ (((16 : Int) ≤ x12 → (V611 k hh hs hr ha x9 x10 x11 x12 x13 x14 x15 x17 x18 x19 x20 x21 x22)) ∧ (¬ (16 : Int) ≤ x12 → ((0 ≤ x12 ∧ x12 < 16) ∧ (∀ h28 : ISt, h28 = iset ha 3 x12.toNat x20 → (k ≤ 10000 ∧ Qn_X4_addCopy hh hs hr x20 (fun (r29 : Int) (hh30 hs31 hr32 : ISt) => inR r29 ∧ inR x12 ∧ ((¬ r29 = x12 → (V1770 k hh30 hs31 hr32 h28 x9 x10 x11 (x12 + (1 : Int)) (0 : Int) x14 x15 x17)) ∧ (r29 = x12 → (k ≤ 10000 ∧ ∃ r33 : Int, Qn_X4_stateOf hh30 hs31 hr32 x12 r33 ∧ (inR r33 ∧ ((¬ r33 = (0 : Int) → (V1770 k hh30 hs31 hr32 h28 x9 x10 x11 (x12 + (1 : Int)) (0 : Int) x14 x15 x17)) ∧ (r33 = (0 : Int) → (k ≤ 10000 ∧ ∃ r34 : Int, Qn_X4_lenders hh30 hs31 hr32 x12 r34 ∧ (inR r34 ∧ ((¬ r34 = (0 : Int) → (V1770 k hh30 hs31 hr32 h28 x9 x10 x11 (x12 + (1 : Int)) (0 : Int) x14 x15 x17)) ∧ (r34 = (0 : Int) → (V1770 k hh30 hs31 hr32 h28 x9 x10 x11 (x12 + (1 : Int)) (1 : Int) x14 x15 x17))))))))))))))))))))) → V549 k hh hs hr ha x9 x10 x11 x12 x13 x14 x15 x17 x18 x19 x20 x21 x22) → (∀ (k : Nat) (hh hs hr ha : ISt) (x9 x10 x11 x12 x13 x14 x15 x17 x18 x19 x20 x21 x22 : Int), (inR x18 ∧ (((4 : Int) ≤ x18 → (V771 k hh hs hr ha x9 x10 x11 x12 x13 x14 x15 x17 x18 x19 x20 x21 x22)) ∧ (¬ (4 : Int) ≤ x18 → ((0 ≤ x20 ∧ x20 < 8) ∧ (inR (ha 6 x20.toNat) ∧ (((12 : Int) ≤ (ha 6 x20.toNat) → (V771 k hh hs hr ha x9 x10 x11 x12 x13 x14 x15 x17 x18 x19 x20 x21 x22)) ∧ (¬ (12 : Int) ≤ (ha 6 x20.toNat) → ((0 ≤ x20 ∧ x20 < 8) ∧ (inR (ha 6 x20.toNat) ∧ (((ha 6 x20.toNat) = (0 : Int) → (V644 k hh hs hr ha x9 x10 x11 x12 x14 x15 x17 x20)) ∧ (¬ (ha 6 x20.toNat) = (0 : Int) → ((0 ≤ x17 ∧ x17 ≤ 2147483647) ∧ (0 ≤ (3 : Int) ∧ (3 : Int) < 32) ∧ (∀ z49 : Int, 0 ≤ z49 → z49 ≤ x17 → (∀ z50 : Int, 0 ≤ z50 → z50 ≤ 3 → (inR z50 ∧ ((¬ z50 = (0 : Int) → ((0 ≤ x17 ∧ x17 ≤ 2147483647) ∧ (0 ≤ (5 : Int) ∧ (5 : Int) < 32) ∧ (∀ z51 : Int, 0 ≤ z51 → z51 ≤ x17 → ((0 ≤ x20 ∧ x20 < 8) ∧ ((0 ≤ z51 ∧ z51 ≤ 2147483647) ∧ (0 < (ha 6 x20.toNat) ∧ (ha 6 x20.toNat) ≤ 2147483647) ∧ (∀ z52 : Int, 0 ≤ z52 → z52 < (ha 6 x20.toNat) → z52 ≤ z51 → (V658 k hh hs hr ha x9 x10 x11 x12 x14 x15 x17 x20 z52))))))) ∧ (z50 = (0 : Int) → (V644 k hh hs hr ha x9 x10 x11 x12 x14 x15 x17 x20)))))))))))))))))) → V611 k hh hs hr ha x9 x10 x11 x12 x13 x14 x15 x17 x18 x19 x20 x21 x22) → (∀ (k : Nat) (hh hs hr ha : ISt) (x9 x10 x11 x12 x14 x15 x17 x20 : Int), (V658 k hh hs hr ha x9 x10 x11 x12 x14 x15 x17 x20 (-1 : Int)) → V644 k hh hs hr ha x9 x10 x11 x12 x14 x15 x17 x20) → (∀ (k : Nat) (hh hs hr ha : ISt) (x9 x10 x11 x12 x14 x15 x17 x20 t0 : Int), (k ≤ 10000 ∧ ∃ r57 : Int, Qn_X4_depth hh hs hr x20 r57 ∧ ((0 ≤ x17 ∧ x17 ≤ 2147483647) ∧ (0 ≤ (9 : Int) ∧ (9 : Int) < 32) ∧ (∀ z58 : Int, 0 ≤ z58 → z58 ≤ x17 → (∀ z59 : Int, 0 ≤ z59 → z59 ≤ 3 → ((0 ≤ x17 ∧ x17 ≤ 2147483647) ∧ (0 ≤ (11 : Int) ∧ (11 : Int) < 32) ∧ (∀ z60 : Int, 0 ≤ z60 → z60 ≤ x17 → ((0 ≤ z60 ∧ z60 ≤ 2147483647) ∧ (0 < (40 : Int) ∧ (40 : Int) ≤ 2147483647) ∧ (∀ z61 : Int, 0 ≤ z61 → z61 < (40 : Int) → z61 ≤ z60 → ((0 ≤ x17 ∧ x17 ≤ 2147483647) ∧ (0 ≤ (18 : Int) ∧ (18 : Int) < 32) ∧ (∀ z62 : Int, 0 ≤ z62 → z62 ≤ x17 → ((0 ≤ z62 ∧ z62 ≤ 2147483647) ∧ (0 < (100 : Int) ∧ (100 : Int) ≤ 2147483647) ∧ (∀ z63 : Int, 0 ≤ z63 → z63 < (100 : Int) → z63 ≤ z62 → (k ≤ 10000 ∧ Qn_X4_addRule hh hs hr x20 t0 z59 ((1 : Int) + z61) z63 (fun (r64 : Int) (hh65 hs66 hr67 : ISt) => (0 ≤ x20 ∧ x20 < 8) ∧ (inR r64 ∧ inR (ha 6 x20.toNat) ∧ ((¬ r64 = (ha 6 x20.toNat) → (V756 k hh65 hs66 hr67 ha x9 x10 x11 x12 x14 x15 x17 x20)) ∧ (r64 = (ha 6 x20.toNat) → (k ≤ 10000 ∧ ∃ r68 : Int, Qn_X4_depth hh65 hs66 hr67 x20 r68 ∧ (inR r68 ∧ inR r57 ∧ ((r68 < r57 → (V756 k hh65 hs66 hr67 ha x9 x10 x11 x12 x14 x15 x17 x20)) ∧ (¬ r68 < r57 → (k ≤ 10000 ∧ ∃ r69 : Int, Qn_X4_depth hh65 hs66 hr67 x20 r69 ∧ (inR r69 ∧ inR (r57 + (1 : Int)) ∧ (((r57 + (1 : Int)) < r69 → (V756 k hh65 hs66 hr67 ha x9 x10 x11 x12 x14 x15 x17 x20)) ∧ (¬ (r57 + (1 : Int)) < r69 → (k ≤ 10000 ∧ ∃ r70 : Int, Qn_X4_depth hh65 hs66 hr67 x20 r70 ∧ (inR t0 ∧ (((0 : Int) ≤ t0 → (V749 k hh65 hs66 hr67 ha x9 x10 x11 x12 x14 x15 x17 x20 (2 : Int) r70)) ∧ (¬ (0 : Int) ≤ t0 → (V749 k hh65 hs66 hr67 ha x9 x10 x11 x12 x14 x15 x17 x20 (1 : Int) r70)))))))))))))))))))))))))))))) → V658 k hh hs hr ha x9 x10 x11 x12 x14 x15 x17 x20 t0) → (∀ (k : Nat) (hh hs hr ha : ISt) (x9 x10 x11 x12 x14 x15 x17 x20 t0 t1 : Int), (inR t1 ∧ inR t0 ∧ ((t1 < t0 → (V756 k hh hs hr ha x9 x10 x11 x12 x14 x15 x17 x20)) ∧ (¬ t1 < t0 → (V757 k hh hs hr ha x9 x10 x11 x12 x14 x15 x17 x20 (1 : Int))))) → V749 k hh hs hr ha x9 x10 x11 x12 x14 x15 x17 x20 t0 t1) → (∀ (k : Nat) (hh hs hr ha : ISt) (x9 x10 x11 x12 x14 x15 x17 x20 : Int), (V757 k hh hs hr ha x9 x10 x11 x12 x14 x15 x17 x20 (0 : Int)) → V756 k hh hs hr ha x9 x10 x11 x12 x14 x15 x17 x20) → (∀ (k : Nat) (hh hs hr ha : ISt) (x9 x10 x11 x12 x14 x15 x17 x20 t0 : Int), ((0 ≤ x20 ∧ x20 < 8) ∧ ((0 ≤ x20 ∧ x20 < 8) ∧ (∀ h113 : ISt, h113 = iset ha 6 x20.toNat ((ha 6 x20.toNat) + (1 : Int)) → (V1770 k hh hs hr h113 x9 x10 x11 x12 t0 x14 x15 x17)))) → V757 k hh hs hr ha x9 x10 x11 x12 x14 x15 x17 x20 t0) → (∀ (k : Nat) (hh hs hr ha : ISt) (x9 x10 x11 x12 x13 x14 x15 x17 x18 x19 x20 x21 x22 : Int), (inR x18 ∧ (((6 : Int) ≤ x18 → (V987 k hh hs hr ha x9 x10 x11 x12 x13 x14 x15 x17 x18 x19 x20 x21 x22)) ∧ (¬ (6 : Int) ≤ x18 → (inR x10 ∧ (((30 : Int) ≤ x10 → (V987 k hh hs hr ha x9 x10 x11 x12 x13 x14 x15 x17 x18 x19 x20 x21 x22)) ∧ (¬ (30 : Int) ≤ x10 → ((0 ≤ x17 ∧ x17 ≤ 2147483647) ∧ (0 ≤ (3 : Int) ∧ (3 : Int) < 32) ∧ (∀ z55 : Int, 0 ≤ z55 → z55 ≤ x17 → (∀ z56 : Int, 0 ≤ z56 → z56 ≤ 1 → (inR z56 ∧ ((¬ z56 = (0 : Int) → (V806 k hh hs hr ha x9 x10 x11 x12 x14 x15 x17 (12 : Int) z55 (1 : Int) x10)) ∧ (z56 = (0 : Int) → (V806 k hh hs hr ha x9 x10 x11 x12 x14 x15 x17 (4 : Int) z55 (1 : Int) x10))))))))))))) → V771 k hh hs hr ha x9 x10 x11 x12 x13 x14 x15 x17 x18 x19 x20 x21 x22) → (∀ (k : Nat) (hh hs hr ha : ISt) (x9 x10 x11 x12 x14 x15 x17 t0 t1 t2 t3 : Int), ((0 ≤ t1 ∧ t1 ≤ 2147483647) ∧ (0 < t0 ∧ t0 ≤ 2147483647) ∧ (∀ z88 : Int, 0 ≤ z88 → z88 < t0 → z88 ≤ t1 → ((0 ≤ t3 ∧ t3 < 30) ∧ (∀ h89 : ISt, h89 = iset ha 1 t3.toNat (t2 + z88) → ((0 ≤ x10 ∧ x10 < 30) ∧ (k ≤ 10000 ∧ ∃ r90 : Int, Qn_X4_waste hh hs hr (h89 1 x10.toNat) r90 ∧ (k ≤ 10000 ∧ ∃ r91 : Int, Q_X4_waiting hh hs hr r91 ∧ ((0 ≤ x10 ∧ x10 < 30) ∧ ((0 ≤ x17 ∧ x17 ≤ 2147483647) ∧ (0 ≤ (7 : Int) ∧ (7 : Int) < 32) ∧ (∀ z92 : Int, 0 ≤ z92 → z92 ≤ x17 → ((0 ≤ z92 ∧ z92 ≤ 2147483647) ∧ (0 < (120 : Int) ∧ (120 : Int) ≤ 2147483647) ∧ (∀ z93 : Int, 0 ≤ z93 → z93 < (120 : Int) → z93 ≤ z92 → (k + 1 ≤ 10000 ∧ Q_L_on hh hs hr (8 : Int) (h89 1 x10.toNat) ((10 : Int) + z93) (0 : Int) (fun (r94 : Int) (hh95 hs96 hr97 : ISt) => inR r94 ∧ inR x10 ∧ ((¬ r94 = x10 → (V903 (k + 1) hh95 hs96 hr97 h89 x9 x10 x11 x12 x14 x15 x17 r90)) ∧ (r94 = x10 → (k + 1 ≤ 10000 ∧ ∃ r98 : Int, Qn_X4_tableOf hh95 hs96 hr97 x10 r98 ∧ (inR r98 ∧ ((r98 < (0 : Int) → (V866 (k + 1) hh95 hs96 hr97 h89 x9 x10 x11 x12 x14 x15 x17 r90 r91 (0 : Int))) ∧ (¬ r98 < (0 : Int) → (V866 (k + 1) hh95 hs96 hr97 h89 x9 x10 x11 x12 x14 x15 x17 r90 r91 (1 : Int)))))))))))))))))))))) → V806 k hh hs hr ha x9 x10 x11 x12 x14 x15 x17 t0 t1 t2 t3) → (∀ (k : Nat) (hh hs hr ha : ISt) (x9 x10 x11 x12 x14 x15 x17 x23 x24 t0 : Int), (inR x23 ∧ ((x23 < (0 : Int) → (V876 k hh hs hr ha x9 x10 x11 x12 x14 x15 x17 x23 x24 (0 : Int) t0)) ∧ (¬ x23 < (0 : Int) → (V876 k hh hs hr ha x9 x10 x11 x12 x14 x15 x17 x23 x24 (1 : Int) t0)))) → V866 k hh hs hr ha x9 x10 x11 x12 x14 x15 x17 x23 x24 t0) → (∀ (k : Nat) (hh hs hr ha : ISt) (x9 x10 x11 x12 x14 x15 x17 x23 x24 t0 t1 : Int), (inR t1 ∧ inR t0 ∧ ((¬ t1 = t0 → (V903 k hh hs hr ha x9 x10 x11 x12 x14 x15 x17 x23)) ∧ (t1 = t0 → (k ≤ 10000 ∧ ∃ r135 : Int, Q_X4_waiting hh hs hr r135 ∧ (inR x23 ∧ (((0 : Int) ≤ x23 → (V895 k hh hs hr ha x9 x10 x11 x12 x14 x15 x17 x23 (0 : Int) x24 r135)) ∧ (¬ (0 : Int) ≤ x23 → (V895 k hh hs hr ha x9 x10 x11 x12 x14 x15 x17 x23 (1 : Int) x24 r135)))))))) → V876 k hh hs hr ha x9 x10 x11 x12 x14 x15 x17 x23 x24 t0 t1) → (∀ (k : Nat) (hh hs hr ha : ISt) (x9 x10 x11 x12 x14 x15 x17 x23 t0 t1 t2 : Int), (inR t2 ∧ inR (t1 + t0) ∧ ((¬ t2 = (t1 + t0) → (V903 k hh hs hr ha x9 x10 x11 x12 x14 x15 x17 x23)) ∧ (t2 = (t1 + t0) → (V904 k hh hs hr ha x9 x10 x11 x12 x14 x15 x17 x23 (1 : Int))))) → V895 k hh hs hr ha x9 x10 x11 x12 x14 x15 x17 x23 t0 t1 t2) → (∀ (k : Nat) (hh hs hr ha : ISt) (x9 x10 x11 x12 x14 x15 x17 x23 : Int), (V904 k hh hs hr ha x9 x10 x11 x12 x14 x15 x17 x23 (0 : Int)) → V903 k hh hs hr ha x9 x10 x11 x12 x14 x15 x17 x23) → (∀ (k : Nat) (hh hs hr ha : ISt) (x9 x10 x11 x12 x14 x15 x17 x23 t0 : Int), (k ≤ 10000 ∧ ∃ r134 : Int, Qn_X4_tablesOf hh hs hr x10 r134 ∧ (V919 k hh hs hr ha x9 x10 x11 x12 t0 x14 x15 x17 x23 ((1 : Int) - r134) (0 : Int))) → V904 k hh hs hr ha x9 x10 x11 x12 x14 x15 x17 x23 t0) → (∀ (k : Nat) (hh hs hr ha : ISt) (x9 x10 x11 x12 x13 x14 x15 x17 x23 x25 x26 : Int), (k ≤ 10000 ∧ ∃ r146 : Int, Qn_X4_tablesOf hh hs hr x10 r146 ∧ (inR x26 ∧ inR r146 ∧ ((r146 ≤ x26 → (inR x13 ∧ ((x13 = (0 : Int) → (V1770 k hh hs hr ha x9 (x10 + (1 : Int)) x11 x12 (0 : Int) x14 x15 x17)) ∧ (¬ x13 = (0 : Int) → (inR x23 ∧ ((x23 < (0 : Int) → (V1770 k hh hs hr ha x9 (x10 + (1 : Int)) x11 x12 (1 : Int) x14 x15 x17)) ∧ (¬ x23 < (0 : Int) → ((0 ≤ x10 ∧ x10 < 30) ∧ (inR x25 ∧ inR ((ha 1 x10.toNat) + x23) ∧ ((¬ x25 = ((ha 1 x10.toNat) + x23) → (V1770 k hh hs hr ha x9 (x10 + (1 : Int)) x11 x12 (0 : Int) x14 x15 x17)) ∧ (x25 = ((ha 1 x10.toNat) + x23) → (V1770 k hh hs hr ha x9 (x10 + (1 : Int)) x11 x12 (1 : Int) x14 x15 x17)))))))))))) ∧ (¬ r146 ≤ x26 → (k ≤ 10000 ∧ ∃ r147 : Int, Qn_X4_tableOf hh hs hr x10 r147 ∧ ((0 ≤ (r147 + x26) ∧ (r147 + x26) < 10) ∧ (V919 k hh hs hr ha x9 x10 x11 x12 x13 x14 x15 x17 x23 (x25 + (ha 0 (r147 + x26).toNat)) (x26 + (1 : Int))))))))) → V919 k hh hs hr ha x9 x10 x11 x12 x13 x14 x15 x17 x23 x25 x26) → (∀ (k : Nat) (hh hs hr ha : ISt) (x9 x10 x11 x12 x13 x14 x15 x17 x18 x19 x20 x21 x22 : Int), (inR x18 ∧ ((¬ x18 = (6 : Int) → (V1108 k hh hs hr ha x9 x10 x11 x12 x13 x14 x15 x17 x18 x19 x20 x21 x22)) ∧ (x18 = (6 : Int) → (∀ z83 : Int, 0 ≤ z83 → z83 ≤ 3 → (inR z83 ∧ ((¬ z83 = (0 : Int) → (V1108 k hh hs hr ha x9 x10 x11 x12 x13 x14 x15 x17 x18 x19 x20 x21 x22)) ∧ (z83 = (0 : Int) → (inR x10 ∧ ((¬ x10 = (0 : Int) → (k + 1 ≤ 10000 ∧ Q_L_on hh hs hr (1 : Int) x19 (0 : Int) (0 : Int) (fun (r84 : Int) (hh85 hs86 hr87 : ISt) => V1020 (k + 1) hh85 hs86 hr87 ha x9 x10 x11 x12 x14 x15 x17 x19 r84))) ∧ (x10 = (0 : Int) → (V1020 k hh hs hr ha x9 x10 x11 x12 x14 x15 x17 x19 (-13 : Int)))))))))))) → V987 k hh hs hr ha x9 x10 x11 x12 x13 x14 x15 x17 x18 x19 x20 x21 x22) → (∀ (k : Nat) (hh hs hr ha : ISt) (x9 x10 x11 x12 x14 x15 x17 x19 t0 : Int), ((0 ≤ x17 ∧ x17 ≤ 2147483647) ∧ (0 ≤ (2 : Int) ∧ (2 : Int) < 32) ∧ (∀ z102 : Int, 0 ≤ z102 → z102 ≤ x17 → ((0 ≤ z102 ∧ z102 ≤ 2147483647) ∧ (0 < (30 : Int) ∧ (30 : Int) ≤ 2147483647) ∧ (∀ z103 : Int, 0 ≤ z103 → z103 < (30 : Int) → z103 ≤ z102 → (k ≤ 10000 ∧ ∃ r104 : Int, Q_X4_now hh hs hr r104 ∧ (k ≤ 10000 ∧ Qn_X4_pass hh hs hr ((1 : Int) + z103) (fun (r105 : Int) (hh106 hs107 hr108 : ISt) => inR r105 ∧ inR (r104 + ((1 : Int) + z103)) ∧ ((¬ r105 = (r104 + ((1 : Int) + z103)) → (V1770 k hh106 hs107 hr108 ha x9 x10 x11 x12 (0 : Int) x14 x15 x17)) ∧ (r105 = (r104 + ((1 : Int) + z103)) → (inR x10 ∧ ((x10 = (0 : Int) → (V1770 k hh106 hs107 hr108 ha x9 x10 x11 x12 (1 : Int) x14 x15 x17)) ∧ (¬ x10 = (0 : Int) → (k + 1 ≤ 10000 ∧ Q_L_on hh106 hs107 hr108 (1 : Int) x19 (0 : Int) (0 : Int) (fun (r109 : Int) (hh110 hs111 hr112 : ISt) => inR t0 ∧ ((¬ t0 = (-13 : Int) → (inR t0 ∧ inR ((1 : Int) + z103) ∧ ((t0 ≤ ((1 : Int) + z103) → (inR r109 ∧ ((¬ r109 = (0 : Int) → (V1770 (k + 1) hh110 hs111 hr112 ha x9 x10 x11 x12 (0 : Int) x14 x15 x17)) ∧ (r109 = (0 : Int) → (V1770 (k + 1) hh110 hs111 hr112 ha x9 x10 x11 x12 (1 : Int) x14 x15 x17))))) ∧ (¬ t0 ≤ ((1 : Int) + z103) → (inR r109 ∧ inR (t0 - ((1 : Int) + z103)) ∧ ((¬ r109 = (t0 - ((1 : Int) + z103)) → (V1770 (k + 1) hh110 hs111 hr112 ha x9 x10 x11 x12 (0 : Int) x14 x15 x17)) ∧ (r109 = (t0 - ((1 : Int) + z103)) → (V1770 (k + 1) hh110 hs111 hr112 ha x9 x10 x11 x12 (1 : Int) x14 x15 x17)))))))) ∧ (t0 = (-13 : Int) → (inR r109 ∧ ((¬ r109 = (-13 : Int) → (V1770 (k + 1) hh110 hs111 hr112 ha x9 x10 x11 x12 (0 : Int) x14 x15 x17)) ∧ (r109 = (-13 : Int) → (V1770 (k + 1) hh110 hs111 hr112 ha x9 x10 x11 x12 (1 : Int) x14 x15 x17)))))))))))))))))))) → V1020 k hh hs hr ha x9 x10 x11 x12 x14 x15 x17 x19 t0) → (∀ (k : Nat) (hh hs hr ha : ISt) (x9 x10 x11 x12 x13 x14 x15 x17 x18 x19 x20 x21 x22 : Int), (inR x18 ∧ (((8 : Int) ≤ x18 → (V1290 k hh hs hr ha x9 x10 x11 x12 x13 x14 x15 x17 x18 x19 x20 x21 x22)) ∧ (¬ (8 : Int) ≤ x18 → (inR x10 ∧ ((x10 ≤ (0 : Int) → (V1290 k hh hs hr ha x9 x10 x11 x12 x13 x14 x15 x17 x18 x19 x20 x21 x22)) ∧ (¬ x10 ≤ (0 : Int) → (k ≤ 10000 ∧ ∃ r100 : Int, Q_X4_waiting hh hs hr r100 ∧ (k ≤ 10000 ∧ ∃ r101 : Int, Qn_X4_tableOf hh hs hr x19 r101 ∧ (inR r101 ∧ (((0 : Int) ≤ r101 → (V1147 k hh hs hr ha x9 x10 x11 x12 x14 x15 x17 x19 r100)) ∧ (¬ (0 : Int) ≤ r101 → ((0 ≤ x19 ∧ x19 < 30) ∧ (inR (ha 2 x19.toNat) ∧ ((¬ (ha 2 x19.toNat) = (0 : Int) → (V1147 k hh hs hr ha x9 x10 x11 x12 x14 x15 x17 x19 r100)) ∧ ((ha 2 x19.toNat) = (0 : Int) → (V1148 k hh hs hr ha x9 x10 x11 x12 x14 x15 x17 x19 r100 (1 : Int))))))))))))))))) → V1108 k hh hs hr ha x9 x10 x11 x12 x13 x14 x15 x17 x18 x19 x20 x21 x22) → (∀ (k : Nat) (hh hs hr ha : ISt) (x9 x10 x11 x12 x14 x15 x17 x19 x23 : Int), (V1148 k hh hs hr ha x9 x10 x11 x12 x14 x15 x17 x19 x23 (0 : Int)) → V1147 k hh hs hr ha x9 x10 x11 x12 x14 x15 x17 x19 x23) → (∀ (k : Nat) (hh hs hr ha : ISt) (x9 x10 x11 x12 x14 x15 x17 x19 x23 t0 : Int), ((0 ≤ x19 ∧ x19 < 30) ∧ (inR (ha 2 x19.toNat) ∧ ((¬ (ha 2 x19.toNat) = (0 : Int) → (V1172 k hh hs hr ha x9 x10 x11 x12 x14 x15 x17 x19 x23 t0)) ∧ ((ha 2 x19.toNat) = (0 : Int) → (k ≤ 10000 ∧ ∃ r133 : Int, Qn_X4_copyOf hh hs hr x19 r133 ∧ (inR r133 ∧ ((¬ r133 = (-1 : Int) → (V1172 k hh hs hr ha x9 x10 x11 x12 x14 x15 x17 x19 x23 t0)) ∧ (r133 = (-1 : Int) → (V1173 k hh hs hr ha x9 x10 x11 x12 x14 x15 x17 x19 x23 t0 (1 : Int)))))))))) → V1148 k hh hs hr ha x9 x10 x11 x12 x14 x15 x17 x19 x23 t0) → (∀ (k : Nat) (hh hs hr ha : ISt) (x9 x10 x11 x12 x14 x15 x17 x19 x23 x24 : Int), (V1173 k hh hs hr ha x9 x10 x11 x12 x14 x15 x17 x19 x23 x24 (0 : Int)) → V1172 k hh hs hr ha x9 x10 x11 x12 x14 x15 x17 x19 x23 x24) → (∀ (k : Nat) (hh hs hr ha : ISt) (x9 x10 x11 x12 x14 x15 x17 x19 x23 x24 t0 : Int), (k + 1 ≤ 10000 ∧ Q_L_on hh hs hr (0 : Int) x19 (0 : Int) (0 : Int) (fun (r142 : Int) (hh143 hs144 hr145 : ISt) => inR r142 ∧ ((¬ r142 = (-13 : Int) → (V1198 (k + 1) hh143 hs144 hr145 ha x9 x10 x11 x12 x14 x15 x17 x19 x23 x24 t0 r142 (0 : Int))) ∧ (r142 = (-13 : Int) → (V1198 (k + 1) hh143 hs144 hr145 ha x9 x10 x11 x12 x14 x15 x17 x19 x23 x24 t0 r142 (1 : Int)))))) → V1173 k hh hs hr ha x9 x10 x11 x12 x14 x15 x17 x19 x23 x24 t0) → (∀ (k : Nat) (hh hs hr ha : ISt) (x9 x10 x11 x12 x14 x15 x17 x19 x23 x24 x25 x26 t0 : Int), (inR x25 ∧ ((¬ x25 = (0 : Int) → (V1208 k hh hs hr ha x9 x10 x11 x12 x14 x15 x17 x19 x23 x24 x26 (0 : Int) t0)) ∧ (x25 = (0 : Int) → (V1208 k hh hs hr ha x9 x10 x11 x12 x14 x15 x17 x19 x23 x24 x26 (1 : Int) t0)))) → V1198 k hh hs hr ha x9 x10 x11 x12 x14 x15 x17 x19 x23 x24 x25 x26 t0) → (∀ (k : Nat) (hh hs hr ha : ISt) (x9 x10 x11 x12 x14 x15 x17 x19 x23 x24 x26 t0 t1 : Int), (inR t1 ∧ inR t0 ∧ ((¬ t1 = t0 → (V1265 k hh hs hr ha x9 x10 x11 x12 x14 x15 x17 x19 x26)) ∧ (t1 = t0 → (inR x26 ∧ (((0 : Int) ≤ x26 → (k ≤ 10000 ∧ ∃ r167 : Int, Q_X4_waiting hh hs hr r167 ∧ (inR x24 ∧ ((x24 = (0 : Int) → (inR r167 ∧ inR ((x23 - x26) - (0 : Int)) ∧ ((¬ r167 = ((x23 - x26) - (0 : Int)) → (V1265 k hh hs hr ha x9 x10 x11 x12 x14 x15 x17 x19 x26)) ∧ (r167 = ((x23 - x26) - (0 : Int)) → (k ≤ 10000 ∧ ∃ r168 : Int, Qn_X4_tableOf hh hs hr x19 r168 ∧ (inR r168 ∧ ((¬ r168 = (-1 : Int) → (V1265 k hh hs hr ha x9 x10 x11 x12 x14 x15 x17 x19 x26)) ∧ (r168 = (-1 : Int) → (V1261 k hh hs hr ha x9 x10 x11 x12 x14 x15 x17 x19 x26))))))))) ∧ (¬ x24 = (0 : Int) → (inR r167 ∧ inR ((x23 - x26) - (1 : Int)) ∧ ((¬ r167 = ((x23 - x26) - (1 : Int)) → (V1265 k hh hs hr ha x9 x10 x11 x12 x14 x15 x17 x19 x26)) ∧ (r167 = ((x23 - x26) - (1 : Int)) → (k ≤ 10000 ∧ ∃ r169 : Int, Qn_X4_tableOf hh hs hr x19 r169 ∧ (inR r169 ∧ ((¬ r169 = (-1 : Int) → (V1265 k hh hs hr ha x9 x10 x11 x12 x14 x15 x17 x19 x26)) ∧ (r169 = (-1 : Int) → (V1261 k hh hs hr ha x9 x10 x11 x12 x14 x15 x17 x19 x26))))))))))))) ∧ (¬ (0 : Int) ≤ x26 → (k ≤ 10000 ∧ ∃ r170 : Int, Q_X4_waiting hh hs hr r170 ∧ (inR r170 ∧ inR x23 ∧ ((¬ r170 = x23 → (V1265 k hh hs hr ha x9 x10 x11 x12 x14 x15 x17 x19 x26)) ∧ (r170 = x23 → (V1261 k hh hs hr ha x9 x10 x11 x12 x14 x15 x17 x19 x26))))))))))) → V1208 k hh hs hr ha x9 x10 x11 x12 x14 x15 x17 x19 x23 x24 x26 t0 t1) → (∀ (k : Nat) (hh hs hr ha : ISt) (x9 x10 x11 x12 x14 x15 x17 x19 x26 : Int), (V1266 k hh hs hr ha x9 x10 x11 x12 x14 x15 x17 x19 x26 (1 : Int)) → V1261 k hh hs hr ha x9 x10 x11 x12 x14 x15 x17 x19 x26) → (∀ (k : Nat) (hh hs hr ha : ISt) (x9 x10 x11 x12 x14 x15 x17 x19 x26 : Int), (V1266 k hh hs hr ha x9 x10 x11 x12 x14 x15 x17 x19 x26 (0 : Int)) → V1265 k hh hs hr ha x9 x10 x11 x12 x14 x15 x17 x19 x26) → (∀ (k : Nat) (hh hs hr ha : ISt) (x9 x10 x11 x12 x14 x15 x17 x19 x26 t0 : Int), (inR x26 ∧ (((0 : Int) ≤ x26 → ((0 ≤ x19 ∧ x19 < 30) ∧ (∀ h171 : ISt, h171 = iset ha 2 x19.toNat (1 : Int) → (V1770 k hh hs hr h171 x9 x10 x11 x12 t0 x14 x15 x17)))) ∧ (¬ (0 : Int) ≤ x26 → ((0 ≤ x19 ∧ x19 < 30) ∧ ((0 ≤ x19 ∧ x19 < 30) ∧ (∀ h172 : ISt, h172 = iset ha 2 x19.toNat (ha 2 x19.toNat) → (V1770 k hh hs hr h172 x9 x10 x11 x12 t0 x14 x15 x17))))))) → V1266 k hh hs hr ha x9 x10 x11 x12 x14 x15 x17 x19 x26 t0) → (∀ (k : Nat) (hh hs hr ha : ISt) (x9 x10 x11 x12 x13 x14 x15 x17 x18 x19 x20 x21 x22 : Int), (inR x18 ∧ (((12 : Int) ≤ x18 → (V1489 k hh hs hr ha x9 x10 x11 x12 x13 x14 x15 x17 x18 x19 x21 x22)) ∧ (¬ (12 : Int) ≤ x18 → (inR x10 ∧ ((x10 ≤ (0 : Int) → (V1489 k hh hs hr ha x9 x10 x11 x12 x13 x14 x15 x17 x18 x19 x21 x22)) ∧ (¬ x10 ≤ (0 : Int) → (inR x11 ∧ ((x11 ≤ (0 : Int) → (V1489 k hh hs hr ha x9 x10 x11 x12 x13 x14 x15 x17 x18 x19 x21 x22)) ∧ (¬ x11 ≤ (0 : Int) → (k ≤ 10000 ∧ ∃ r119 : Int, Q_L_pieces hh hs hr ha x12 x22 r119 ∧ (k + 1 ≤ 10000 ∧ Q_L_on hh hs hr (2 : Int) x19 x20 (0 : Int) (fun (r120 : Int) (hh121 hs122 hr123 : ISt) => inR r120 ∧ ((¬ r120 = (-13 : Int) → ((0 ≤ r120 ∧ r120 < 16) ∧ (inR (ha 3 r120.toNat) ∧ inR x20 ∧ ((¬ (ha 3 r120.toNat) = x20 → (V1461 (k + 1) hh121 hs122 hr123 ha x9 x10 x11 x12 (0 : Int) x14 x15 x17 x22 r119)) ∧ ((ha 3 r120.toNat) = x20 → (k + 1 ≤ 10000 ∧ ∃ r124 : Int, Qn_X4_copyOf hh121 hs122 hr123 x19 r124 ∧ (inR r124 ∧ inR r120 ∧ ((¬ r124 = r120 → (V1461 (k + 1) hh121 hs122 hr123 ha x9 x10 x11 x12 (0 : Int) x14 x15 x17 x22 r119)) ∧ (r124 = r120 → (k + 1 ≤ 10000 ∧ ∃ r125 : Int, Qn_X4_stateOf hh121 hs122 hr123 r120 r125 ∧ (inR r125 ∧ ((¬ r125 = (1 : Int) → (V1461 (k + 1) hh121 hs122 hr123 ha x9 x10 x11 x12 (0 : Int) x14 x15 x17 x22 r119)) ∧ (r125 = (1 : Int) → (k + 1 ≤ 10000 ∧ ∃ r126 : Int, Qn_X4_offers hh121 hs122 hr123 x19 r126 ∧ (inR r126 ∧ ((¬ r126 = (0 : Int) → (V1461 (k + 1) hh121 hs122 hr123 ha x9 x10 x11 x12 (0 : Int) x14 x15 x17 x22 r119)) ∧ (r126 = (0 : Int) → (k + 1 + 1 ≤ 10000 ∧ Q_L_on hh121 hs122 hr123 (2 : Int) x19 x20 (0 : Int) (fun (r127 : Int) (hh128 hs129 hr130 : ISt) => inR r127 ∧ ((¬ r127 = (-13 : Int) → (V1461 (k + 1 + 1) hh128 hs129 hr130 ha x9 x10 x11 x12 (0 : Int) x14 x15 x17 x22 r119)) ∧ (r127 = (-13 : Int) → (V1461 (k + 1 + 1) hh128 hs129 hr130 ha x9 x10 x11 x12 (1 : Int) x14 x15 x17 x22 r119)))))))))))))))))))))) ∧ (r120 = (-13 : Int) → ((0 ≤ x15 ∧ x15 ≤ 2147483647) ∧ (0 < (4 : Int) ∧ (4 : Int) ≤ 2147483647) ∧ (∀ z131 : Int, 0 ≤ z131 → z131 < (4 : Int) → z131 ≤ x15 → (inR z131 ∧ ((¬ z131 = (0 : Int) → (V1358 (k + 1) hh121 hs122 hr123 ha x9 x10 x11 x12 x13 x14 x15 x17 x19 x20 x22 r119 (0 : Int) (0 : Int))) ∧ (z131 = (0 : Int) → (k + 1 ≤ 10000 ∧ ∃ r132 : Int, Qn_X4_offers hh121 hs122 hr123 x19 r132 ∧ (V1358 (k + 1) hh121 hs122 hr123 ha x9 x10 x11 x12 x13 x14 x15 x17 x19 x20 x22 r119 r132 (0 : Int)))))))))))))))))))))) → V1290 k hh hs hr ha x9 x10 x11 x12 x13 x14 x15 x17 x18 x19 x20 x21 x22) → (∀ (k : Nat) (hh hs hr ha : ISt) (x9 x10 x11 x12 x13 x14 x15 x17 x19 x20 x22 x23 x25 x26 : Int), (inR x26 ∧ inR x25 ∧ ((x25 ≤ x26 → (V1461 k hh hs hr ha x9 x10 x11 x12 x13 x14 x15 x17 x22 x23)) ∧ (¬ x25 ≤ x26 → (inR x13 ∧ ((x13 = (0 : Int) → (V1358 k hh hs hr ha x9 x10 x11 x12 (0 : Int) x14 x15 x17 x19 x20 x22 x23 x25 (x26 + (1 : Int)))) ∧ (¬ x13 = (0 : Int) → (k ≤ 10000 ∧ ∃ r141 : Int, Qn_X4_offerAt hh hs hr x19 x26 r141 ∧ (inR r141 ∧ inR x20 ∧ ((r141 = x20 → (V1358 k hh hs hr ha x9 x10 x11 x12 (0 : Int) x14 x15 x17 x19 x20 x22 x23 x25 (x26 + (1 : Int)))) ∧ (¬ r141 = x20 → (V1358 k hh hs hr ha x9 x10 x11 x12 (1 : Int) x14 x15 x17 x19 x20 x22 x23 x25 (x26 + (1 : Int))))))))))))) → V1358 k hh hs hr ha x9 x10 x11 x12 x13 x14 x15 x17 x19 x20 x22 x23 x25 x26) → (∀ (k : Nat) (hh hs hr ha : ISt) (x9 x10 x11 x12 x13 x14 x15 x17 x22 x23 : Int), (inR x13 ∧ ((x13 = (0 : Int) → (V1770 k hh hs hr ha x9 x10 x11 x12 (0 : Int) x14 x15 x17)) ∧ (¬ x13 = (0 : Int) → (k ≤ 10000 ∧ ∃ r140 : Int, Q_L_pieces hh hs hr ha x12 x22 r140 ∧ (inR r140 ∧ inR x23 ∧ ((¬ r140 = x23 → (V1770 k hh hs hr ha x9 x10 x11 x12 (0 : Int) x14 x15 x17)) ∧ (r140 = x23 → (V1770 k hh hs hr ha x9 x10 x11 x12 (1 : Int) x14 x15 x17)))))))) → V1461 k hh hs hr ha x9 x10 x11 x12 x13 x14 x15 x17 x22 x23) → (∀ (k : Nat) (hh hs hr ha : ISt) (x9 x10 x11 x12 x13 x14 x15 x17 x18 x19 x21 x22 : Int), (inR x18 ∧ (((14 : Int) ≤ x18 → (V1672 k hh hs hr ha x9 x10 x11 x12 x13 x14 x15 x17 x18 x21 x22)) ∧ (¬ (14 : Int) ≤ x18 → (inR x10 ∧ ((x10 ≤ (0 : Int) → (V1672 k hh hs hr ha x9 x10 x11 x12 x13 x14 x15 x17 x18 x21 x22)) ∧ (¬ x10 ≤ (0 : Int) → ((0 ≤ x17 ∧ x17 ≤ 2147483647) ∧ (0 ≤ (8 : Int) ∧ (8 : Int) < 32) ∧ (∀ z136 : Int, 0 ≤ z136 → z136 ≤ x17 → (∀ z137 : Int, 0 ≤ z137 → z137 ≤ 1 → (inR z137 ∧ ((¬ z137 = (0 : Int) → ((0 ≤ x17 ∧ x17 ≤ 2147483647) ∧ (0 ≤ (9 : Int) ∧ (9 : Int) < 32) ∧ (∀ z138 : Int, 0 ≤ z138 → z138 ≤ x17 → ((0 ≤ z138 ∧ z138 ≤ 2147483647) ∧ (0 < (4 : Int) ∧ (4 : Int) ≤ 2147483647) ∧ (∀ z139 : Int, 0 ≤ z139 → z139 < (4 : Int) → z139 ≤ z138 → (V1522 k hh hs hr ha x9 x10 x11 x12 x14 x15 x17 x19 x22 z139)))))) ∧ (z137 = (0 : Int) → (V1522 k hh hs hr ha x9 x10 x11 x12 x14 x15 x17 x19 x22 (0 : Int)))))))))))))) → V1489 k hh hs hr ha x9 x10 x11 x12 x13 x14 x15 x17 x18 x19 x21 x22) → (∀ (k : Nat) (hh hs hr ha : ISt) (x9 x10 x11 x12 x14 x15 x17 x19 x22 t0 : Int), (k ≤ 10000 ∧ ∃ r156 : Int, Qn_X4_copyOf hh hs hr x19 r156 ∧ (k ≤ 10000 ∧ ∃ r157 : Int, Q_L_pieces hh hs hr ha x12 x22 r157 ∧ (inR r156 ∧ (((0 : Int) ≤ r156 → (k ≤ 10000 ∧ ∃ r158 : Int, Qn_X4_pieces hh hs hr r156 x22 r158 ∧ (V1559 k hh hs hr ha x9 x10 x11 x12 x14 x15 x17 x19 r156 x22 t0 r157 r158))) ∧ (¬ (0 : Int) ≤ r156 → (V1559 k hh hs hr ha x9 x10 x11 x12 x14 x15 x17 x19 r156 x22 t0 r157 (0 : Int))))))) → V1522 k hh hs hr ha x9 x10 x11 x12 x14 x15 x17 x19 x22 t0) → (∀ (k : Nat) (hh hs hr ha : ISt) (x9 x10 x11 x12 x14 x15 x17 x19 x21 x22 x23 x24 t0 : Int), (k + 1 ≤ 10000 ∧ Q_L_on hh hs hr (3 : Int) x19 x22 x23 (fun (r159 : Int) (hh160 hs161 hr162 : ISt) => inR r159 ∧ ((¬ r159 = (-13 : Int) → (inR x21 ∧ ((x21 < (0 : Int) → (V1770 (k + 1) hh160 hs161 hr162 ha x9 x10 x11 x12 (0 : Int) x14 x15 x17)) ∧ (¬ x21 < (0 : Int) → (inR r159 ∧ ((r159 < (0 : Int) → (V1770 (k + 1) hh160 hs161 hr162 ha x9 x10 x11 x12 (0 : Int) x14 x15 x17)) ∧ (¬ r159 < (0 : Int) → (k + 1 ≤ 10000 ∧ ∃ r163 : Int, Qn_X4_copyOf hh160 hs161 hr162 x19 r163 ∧ (inR r163 ∧ ((¬ r163 = (-1 : Int) → (V1770 (k + 1) hh160 hs161 hr162 ha x9 x10 x11 x12 (0 : Int) x14 x15 x17)) ∧ (r163 = (-1 : Int) → (k + 1 ≤ 10000 ∧ ∃ r164 : Int, Qn_X4_stateOf hh160 hs161 hr162 x21 r164 ∧ (inR r164 ∧ ((¬ r164 = (0 : Int) → (V1770 (k + 1) hh160 hs161 hr162 ha x9 x10 x11 x12 (0 : Int) x14 x15 x17)) ∧ (r164 = (0 : Int) → (k + 1 ≤ 10000 ∧ ∃ r165 : Int, Q_L_pieces hh160 hs161 hr162 ha x12 x22 r165 ∧ (inR r165 ∧ inR (x24 - x23) ∧ ((¬ r165 = (x24 - x23) → (V1770 (k + 1) hh160 hs161 hr162 ha x9 x10 x11 x12 (0 : Int) x14 x15 x17)) ∧ (r165 = (x24 - x23) → (k + 1 ≤ 10000 ∧ ∃ r166 : Int, Qn_X4_pieces hh160 hs161 hr162 x21 x22 r166 ∧ (inR r166 ∧ inR (t0 - x23) ∧ (((t0 - x23) < r166 → (V1770 (k + 1) hh160 hs161 hr162 ha x9 x10 x11 x12 (0 : Int) x14 x15 x17)) ∧ (¬ (t0 - x23) < r166 → (V1770 (k + 1) hh160 hs161 hr162 ha x9 x10 x11 x12 (1 : Int) x14 x15 x17)))))))))))))))))))))))) ∧ (r159 = (-13 : Int) → (inR x21 ∧ ((x21 < (0 : Int) → (V1770 (k + 1) hh160 hs161 hr162 ha x9 x10 x11 x12 (1 : Int) x14 x15 x17)) ∧ (¬ x21 < (0 : Int) → (inR t0 ∧ inR x23 ∧ ((x23 ≤ t0 → (V1770 (k + 1) hh160 hs161 hr162 ha x9 x10 x11 x12 (0 : Int) x14 x15 x17)) ∧ (¬ x23 ≤ t0 → (V1770 (k + 1) hh160 hs161 hr162 ha x9 x10 x11 x12 (1 : Int) x14 x15 x17))))))))))) → V1559 k hh hs hr ha x9 x10 x11 x12 x14 x15 x17 x19 x21 x22 x23 x24 t0) → (∀ (k : Nat) (hh hs hr ha : ISt) (x9 x10 x11 x12 x13 x14 x15 x17 x18 x21 x22 : Int), (inR x18 ∧ ((¬ x18 = (14 : Int) → (V1770 k hh hs hr ha x9 x10 x11 x12 x13 x14 x15 x17)) ∧ (x18 = (14 : Int) → (inR x12 ∧ ((x12 ≤ (0 : Int) → (V1770 k hh hs hr ha x9 x10 x11 x12 x13 x14 x15 x17)) ∧ (¬ x12 ≤ (0 : Int) → ((0 ≤ x17 ∧ x17 ≤ 2147483647) ∧ (0 ≤ (8 : Int) ∧ (8 : Int) < 32) ∧ (∀ z148 : Int, 0 ≤ z148 → z148 ≤ x17 → ((0 ≤ z148 ∧ z148 ≤ 2147483647) ∧ (0 < (3 : Int) ∧ (3 : Int) ≤ 2147483647) ∧ (∀ z149 : Int, 0 ≤ z149 → z149 < (3 : Int) → z149 ≤ z148 → (k ≤ 10000 ∧ ∃ r150 : Int, Qn_X4_pieces hh hs hr x21 x22 r150 ∧ (k + 1 ≤ 10000 ∧ Q_L_on hh hs hr (4 : Int) x21 x22 ((1 : Int) + z149) (fun (r151 : Int) (hh152 hs153 hr154 : ISt) => k + 1 ≤ 10000 ∧ ∃ r155 : Int, Qn_X4_stateOf hh152 hs153 hr154 x21 r155 ∧ (inR r155 ∧ ((¬ r155 = (0 : Int) → (inR r151 ∧ ((¬ r151 = (-13 : Int) → (V1770 (k + 1) hh152 hs153 hr154 ha x9 x10 x11 x12 (0 : Int) x14 x15 x17)) ∧ (r151 = (-13 : Int) → (V1770 (k + 1) hh152 hs153 hr154 ha x9 x10 x11 x12 (1 : Int) x14 x15 x17))))) ∧ (r155 = (0 : Int) → ((0 ≤ x21 ∧ x21 < 16) ∧ ((0 ≤ (((4 : Int) * (ha 3 x21.toNat)) + x22) ∧ (((4 : Int) * (ha 3 x21.toNat)) + x22) < 32) ∧ (inR (r150 + ((1 : Int) + z149)) ∧ inR (ha 4 (((4 : Int) * (ha 3 x21.toNat)) + x22).toNat) ∧ (((ha 4 (((4 : Int) * (ha 3 x21.toNat)) + x22).toNat) < (r150 + ((1 : Int) + z149)) → (inR r151 ∧ ((¬ r151 = (-13 : Int) → (V1770 (k + 1) hh152 hs153 hr154 ha x9 x10 x11 x12 (0 : Int) x14 x15 x17)) ∧ (r151 = (-13 : Int) → (V1770 (k + 1) hh152 hs153 hr154 ha x9 x10 x11 x12 (1 : Int) x14 x15 x17))))) ∧ (¬ (ha 4 (((4 : Int) * (ha 3 x21.toNat)) + x22).toNat) < (r150 + ((1 : Int) + z149)) → (inR r151 ∧ inR (r150 + ((1 : Int) + z149)) ∧ ((¬ r151 = (r150 + ((1 : Int) + z149)) → (V1770 (k + 1) hh152 hs153 hr154 ha x9 x10 x11 x12 (0 : Int) x14 x15 x17)) ∧ (r151 = (r150 + ((1 : Int) + z149)) → (V1770 (k + 1) hh152 hs153 hr154 ha x9 x10 x11 x12 (1 : Int) x14 x15 x17))))))))))))))))))))))))) → V1672 k hh hs hr ha x9 x10 x11 x12 x13 x14 x15 x17 x18 x21 x22) → (∀ (k : Nat) (hh hs hr ha : ISt) (x9 x10 x11 x12 x13 x14 x15 x17 : Int), (inR x13 ∧ ((x13 = (0 : Int) → (V1836 k hh hs hr ha x9 x10 x11 x12 x14 x15 x17)) ∧ (¬ x13 = (0 : Int) → ((0 ≤ x15 ∧ x15 ≤ 2147483647) ∧ (0 < (3 : Int) ∧ (3 : Int) ≤ 2147483647) ∧ (∀ z44 : Int, 0 ≤ z44 → z44 < (3 : Int) → z44 ≤ x15 → (inR z44 ∧ (((0 : Int) < z44 → (V1795 k hh hs hr ha x9 x10 x11 x12 x14 x15 x17)) ∧ (¬ (0 : Int) < z44 → (k + 30 ≤ 10000 ∧ Q_L_areTables hh hs hr ha x10 (fun (r45 : Int) (hh46 hs47 hr48 : ISt) => inR r45 ∧ ((r45 = (0 : Int) → (V1836 (k + 30) hh46 hs47 hr48 ha x9 x10 x11 x12 x14 x15 x17)) ∧ (¬ r45 = (0 : Int) → (V1795 (k + 30) hh46 hs47 hr48 ha x9 x10 x11 x12 x14 x15 x17))))))))))))) → V1770 k hh hs hr ha x9 x10 x11 x12 x13 x14 x15 x17) → (∀ (k : Nat) (hh hs hr ha : ISt) (x9 x10 x11 x12 x14 x15 x17 : Int), ((0 ≤ x15 ∧ x15 ≤ 2147483647) ∧ (0 < (3 : Int) ∧ (3 : Int) ≤ 2147483647) ∧ (∀ z53 : Int, 0 ≤ z53 → z53 < (3 : Int) → z53 ≤ x15 → (inR z53 ∧ ((¬ z53 = (1 : Int) → (V1818 k hh hs hr ha x9 x10 x11 x12 x14 x15 x17)) ∧ (z53 = (1 : Int) → (k ≤ 10000 ∧ ∃ r54 : Int, Q_L_areCopies hh hs hr ha x12 x10 r54 ∧ (inR r54 ∧ ((r54 = (0 : Int) → (V1836 k hh hs hr ha x9 x10 x11 x12 x14 x15 x17)) ∧ (¬ r54 = (0 : Int) → (V1818 k hh hs hr ha x9 x10 x11 x12 x14 x15 x17)))))))))) → V1795 k hh hs hr ha x9 x10 x11 x12 x14 x15 x17) → (∀ (k : Nat) (hh hs hr ha : ISt) (x9 x10 x11 x12 x14 x15 x17 : Int), ((0 ≤ x17 ∧ x17 ≤ 2147483647) ∧ (0 < (12 : Int) ∧ (12 : Int) ≤ 2147483647) ∧ (∀ z81 : Int, 0 ≤ z81 → z81 < (12 : Int) → z81 ≤ x17 → (k ≤ 10000 ∧ ∃ r82 : Int, Q_L_isWaste hh hs hr ha ((1 : Int) + z81) r82 ∧ (inR r82 ∧ ((r82 = (0 : Int) → (V1836 k hh hs hr ha x9 x10 x11 x12 x14 x15 x17)) ∧ (¬ r82 = (0 : Int) → (V1837 k hh hs hr ha x9 x10 x11 x12 x14 x15 x17 (1 : Int)))))))) → V1818 k hh hs hr ha x9 x10 x11 x12 x14 x15 x17) → (∀ (k : Nat) (hh hs hr ha : ISt) (x9 x10 x11 x12 x14 x15 x17 : Int), (V1837 k hh hs hr ha x9 x10 x11 x12 x14 x15 x17 (0 : Int)) → V1836 k hh hs hr ha x9 x10 x11 x12 x14 x15 x17) → (∀ (k : Nat) (hh hs hr ha : ISt) (x9 x10 x11 x12 x14 x15 x17 t0 : Int), (inR t0 ∧ ((t0 = (0 : Int) → (V116 k hh hs hr ha x9 x10 x11 x12 t0 x14 (x15 + (1 : Int)))) ∧ (¬ t0 = (0 : Int) → (inR x10 ∧ ((x10 ≤ (0 : Int) → (V116 k hh hs hr ha x9 x10 x11 x12 t0 x14 (x15 + (1 : Int)))) ∧ (¬ x10 ≤ (0 : Int) → ((0 ≤ x17 ∧ x17 ≤ 2147483647) ∧ (0 ≤ (7 : Int) ∧ (7 : Int) < 32) ∧ (∀ z71 : Int, 0 ≤ z71 → z71 ≤ x17 → ((0 ≤ z71 ∧ z71 ≤ 2147483647) ∧ (0 < x10 ∧ x10 ≤ 2147483647) ∧ (∀ z72 : Int, 0 ≤ z72 → z72 < x10 → z72 ≤ z71 → (k + 1 ≤ 10000 ∧ Q_L_on hh hs hr (5 : Int) z72 (0 : Int) (0 : Int) (fun (r73 : Int) (hh74 hs75 hr76 : ISt) => k + 1 + 1 ≤ 10000 ∧ Q_L_on hh74 hs75 hr76 (6 : Int) z72 (0 : Int) (0 : Int) (fun (r77 : Int) (hh78 hs79 hr80 : ISt) => inR r77 ∧ inR r73 ∧ ((¬ r77 = r73 → (V116 (k + 1 + 1) hh78 hs79 hr80 ha x9 x10 x11 x12 (0 : Int) x14 (x15 + (1 : Int)))) ∧ (r77 = r73 → (inR r73 ∧ ((¬ r73 = (-13 : Int) → (V1897 (k + 1 + 1) hh78 hs79 hr80 ha x9 x10 x11 x12 x14 x15 z72 r73 (0 : Int))) ∧ (r73 = (-13 : Int) → (V1897 (k + 1 + 1) hh78 hs79 hr80 ha x9 x10 x11 x12 x14 x15 z72 r73 (1 : Int)))))))))))))))))))) → V1837 k hh hs hr ha x9 x10 x11 x12 x14 x15 x17 t0) → (∀ (k : Nat) (hh hs hr ha : ISt) (x9 x10 x11 x12 x14 x15 x19 x23 t0 : Int), (k ≤ 10000 ∧ ∃ r99 : Int, Qn_X4_copyOf hh hs hr x19 r99 ∧ (inR r99 ∧ ((¬ r99 = (-1 : Int) → (V1912 k hh hs hr ha x9 x10 x11 x12 x14 x15 x19 x23 (0 : Int) t0)) ∧ (r99 = (-1 : Int) → (V1912 k hh hs hr ha x9 x10 x11 x12 x14 x15 x19 x23 (1 : Int) t0))))) → V1897 k hh hs hr ha x9 x10 x11 x12 x14 x15 x19 x23 t0) → (∀ (k : Nat) (hh hs hr ha : ISt) (x9 x10 x11 x12 x14 x15 x19 x23 t0 t1 : Int), (inR t1 ∧ inR t0 ∧ ((¬ t1 = t0 → (V116 k hh hs hr ha x9 x10 x11 x12 (0 : Int) x14 (x15 + (1 : Int)))) ∧ (t1 = t0 → (inR x23 ∧ (((100 : Int) ≤ x23 → (V116 k hh hs hr ha x9 x10 x11 x12 (0 : Int) x14 (x15 + (1 : Int)))) ∧ (¬ (100 : Int) ≤ x23 → ((0 ≤ x15 ∧ x15 ≤ 2147483647) ∧ (0 < (8 : Int) ∧ (8 : Int) ≤ 2147483647) ∧ (∀ z114 : Int, 0 ≤ z114 → z114 < (8 : Int) → z114 ≤ x15 → (inR z114 ∧ (((0 : Int) < z114 → (V116 k hh hs hr ha x9 x10 x11 x12 (1 : Int) x14 (x15 + (1 : Int)))) ∧ (¬ (0 : Int) < z114 → ((0 ≤ x19 ∧ x19 < 30) ∧ (k + 2 ≤ 10000 ∧ Q_L_areOffers hh hs hr ha x19 (ha 1 x19.toNat) x12 (fun (r115 : Int) (hh116 hs117 hr118 : ISt) => inR r115 ∧ ((r115 = (0 : Int) → (V116 (k + 2) hh116 hs117 hr118 ha x9 x10 x11 x12 (0 : Int) x14 (x15 + (1 : Int)))) ∧ (¬ r115 = (0 : Int) → (V116 (k + 2) hh116 hs117 hr118 ha x9 x10 x11 x12 (1 : Int) x14 (x15 + (1 : Int))))))))))))))))))) → V1912 k hh hs hr ha x9 x10 x11 x12 x14 x15 x19 x23 t0 t1) → (0 ≤ 10000 ∧ ∃ r1 : Int, Q_X4_now hh hs hr r1 ∧ (inR r1 ∧ ((¬ r1 = (0 : Int) → (V78 0 hh hs hr ha (0 : Int) (0 : Int) (0 : Int) (0 : Int))) ∧ (r1 = (0 : Int) → (0 ≤ 10000 ∧ ∃ r2 : Int, Q_X4_waiting hh hs hr r2 ∧ (inR r2 ∧ ((¬ r2 = (0 : Int) → (V78 0 hh hs hr ha (0 : Int) (0 : Int) (0 : Int) (0 : Int))) ∧ (r2 = (0 : Int) → (V79 0 hh hs hr ha (0 : Int) (0 : Int) (0 : Int) (0 : Int) (1 : Int))))))))))
set_option maxRecDepth 100000 in
set_option maxHeartbeats 8000000 in
theorem t_L_law (L : Nat) (hh hs hr ha : ISt) (hL : L ≤ 260) (xs : Nat → Int32) (hq : Q_L_law L hh hs hr ha) : P_L_law L xs (zS hh) (zS hs) (zS hr) (zS ha) := by
  intro V78 V79 V116 V160 V218 V234 V250 V266 V330 V331 V339 V421 V549 V611 V644 V658 V749 V756 V757 V771 V806 V866 V876 V895 V903 V904 V919 V987 V1020 V1108 V1147 V1148 V1172 V1173 V1198 V1208 V1261 V1265 V1266 V1290 V1358 V1461 V1489 V1522 V1559 V1672 V1770 V1795 V1818 V1836 V1837 V1897 V1912 k78 k79 k116 k160 k218 k234 k250 k266 k330 k331 k339 k421 k549 k611 k644 k658 k749 k756 k757 k771 k806 k866 k876 k895 k903 k904 k919 k987 k1020 k1108 k1147 k1148 k1172 k1173 k1198 k1208 k1261 k1265 k1266 k1290 k1358 k1461 k1489 k1522 k1559 k1672 k1770 k1795 k1818 k1836 k1837 k1897 k1912
  have hq := hq (fun k hh hs hr ha x9 x10 x11 x12 => V78 k (zS hh) (zS hs) (zS hr) (zS ha) (zI x9) (zI x10) (zI x11) (zI x12)) (fun k hh hs hr ha x9 x10 x11 x12 t0 => V79 k (zS hh) (zS hs) (zS hr) (zS ha) (zI x9) (zI x10) (zI x11) (zI x12) (zI t0)) (fun k hh hs hr ha x9 x10 x11 x12 x13 x14 x15 => V116 k (zS hh) (zS hs) (zS hr) (zS ha) (zI x9) (zI x10) (zI x11) (zI x12) (zI x13) (zI x14) (zI x15)) (fun k hh hs hr ha x9 x10 x11 x12 x13 x14 x15 t0 => V160 k (zS hh) (zS hs) (zS hr) (zS ha) (zI x9) (zI x10) (zI x11) (zI x12) (zI x13) (zI x14) (zI x15) (zI t0)) (fun k hh hs hr ha x9 x10 x11 x12 x13 x14 x15 x17 t0 => V218 k (zS hh) (zS hs) (zS hr) (zS ha) (zI x9) (zI x10) (zI x11) (zI x12) (zI x13) (zI x14) (zI x15) (zI x17) (zI t0)) (fun k hh hs hr ha x9 x10 x11 x12 x13 x14 x15 x17 x18 t0 => V234 k (zS hh) (zS hs) (zS hr) (zS ha) (zI x9) (zI x10) (zI x11) (zI x12) (zI x13) (zI x14) (zI x15) (zI x17) (zI x18) (zI t0)) (fun k hh hs hr ha x9 x10 x11 x12 x13 x14 x15 x17 x18 x19 t0 => V250 k (zS hh) (zS hs) (zS hr) (zS ha) (zI x9) (zI x10) (zI x11) (zI x12) (zI x13) (zI x14) (zI x15) (zI x17) (zI x18) (zI x19) (zI t0)) (fun k hh hs hr ha x9 x10 x11 x12 x13 x14 x15 x17 x18 x19 x20 t0 => V266 k (zS hh) (zS hs) (zS hr) (zS ha) (zI x9) (zI x10) (zI x11) (zI x12) (zI x13) (zI x14) (zI x15) (zI x17) (zI x18) (zI x19) (zI x20) (zI t0)) (fun k hh hs hr ha x9 x10 x11 x12 x14 x15 x17 => V330 k (zS hh) (zS hs) (zS hr) (zS ha) (zI x9) (zI x10) (zI x11) (zI x12) (zI x14) (zI x15) (zI x17)) (fun k hh hs hr ha x9 x10 x11 x12 x14 x15 x17 t0 => V331 k (zS hh) (zS hs) (zS hr) (zS ha) (zI x9) (zI x10) (zI x11) (zI x12) (zI x14) (zI x15) (zI x17) (zI t0)) (fun k hh hs hr ha x9 x10 x11 x12 x13 x14 x15 x17 x18 x19 x20 x21 x22 => V339 k (zS hh) (zS hs) (zS hr) (zS ha) (zI x9) (zI x10) (zI x11) (zI x12) (zI x13) (zI x14) (zI x15) (zI x17) (zI x18) (zI x19) (zI x20) (zI x21) (zI x22)) (fun k hh hs hr ha x9 x10 x11 x12 x14 x15 x17 x23 => V421 k (zS hh) (zS hs) (zS hr) (zS ha) (zI x9) (zI x10) (zI x11) (zI x12) (zI x14) (zI x15) (zI x17) (zI x23)) (fun k hh hs hr ha x9 x10 x11 x12 x13 x14 x15 x17 x18 x19 x20 x21 x22 => V549 k (zS hh) (zS hs) (zS hr) (zS ha) (zI x9) (zI x10) (zI x11) (zI x12) (zI x13) (zI x14) (zI x15) (zI x17) (zI x18) (zI x19) (zI x20) (zI x21) (zI x22)) (fun k hh hs hr ha x9 x10 x11 x12 x13 x14 x15 x17 x18 x19 x20 x21 x22 => V611 k (zS hh) (zS hs) (zS hr) (zS ha) (zI x9) (zI x10) (zI x11) (zI x12) (zI x13) (zI x14) (zI x15) (zI x17) (zI x18) (zI x19) (zI x20) (zI x21) (zI x22)) (fun k hh hs hr ha x9 x10 x11 x12 x14 x15 x17 x20 => V644 k (zS hh) (zS hs) (zS hr) (zS ha) (zI x9) (zI x10) (zI x11) (zI x12) (zI x14) (zI x15) (zI x17) (zI x20)) (fun k hh hs hr ha x9 x10 x11 x12 x14 x15 x17 x20 t0 => V658 k (zS hh) (zS hs) (zS hr) (zS ha) (zI x9) (zI x10) (zI x11) (zI x12) (zI x14) (zI x15) (zI x17) (zI x20) (zI t0)) (fun k hh hs hr ha x9 x10 x11 x12 x14 x15 x17 x20 t0 t1 => V749 k (zS hh) (zS hs) (zS hr) (zS ha) (zI x9) (zI x10) (zI x11) (zI x12) (zI x14) (zI x15) (zI x17) (zI x20) (zI t0) (zI t1)) (fun k hh hs hr ha x9 x10 x11 x12 x14 x15 x17 x20 => V756 k (zS hh) (zS hs) (zS hr) (zS ha) (zI x9) (zI x10) (zI x11) (zI x12) (zI x14) (zI x15) (zI x17) (zI x20)) (fun k hh hs hr ha x9 x10 x11 x12 x14 x15 x17 x20 t0 => V757 k (zS hh) (zS hs) (zS hr) (zS ha) (zI x9) (zI x10) (zI x11) (zI x12) (zI x14) (zI x15) (zI x17) (zI x20) (zI t0)) (fun k hh hs hr ha x9 x10 x11 x12 x13 x14 x15 x17 x18 x19 x20 x21 x22 => V771 k (zS hh) (zS hs) (zS hr) (zS ha) (zI x9) (zI x10) (zI x11) (zI x12) (zI x13) (zI x14) (zI x15) (zI x17) (zI x18) (zI x19) (zI x20) (zI x21) (zI x22)) (fun k hh hs hr ha x9 x10 x11 x12 x14 x15 x17 t0 t1 t2 t3 => V806 k (zS hh) (zS hs) (zS hr) (zS ha) (zI x9) (zI x10) (zI x11) (zI x12) (zI x14) (zI x15) (zI x17) (zI t0) (zI t1) (zI t2) (zI t3)) (fun k hh hs hr ha x9 x10 x11 x12 x14 x15 x17 x23 x24 t0 => V866 k (zS hh) (zS hs) (zS hr) (zS ha) (zI x9) (zI x10) (zI x11) (zI x12) (zI x14) (zI x15) (zI x17) (zI x23) (zI x24) (zI t0)) (fun k hh hs hr ha x9 x10 x11 x12 x14 x15 x17 x23 x24 t0 t1 => V876 k (zS hh) (zS hs) (zS hr) (zS ha) (zI x9) (zI x10) (zI x11) (zI x12) (zI x14) (zI x15) (zI x17) (zI x23) (zI x24) (zI t0) (zI t1)) (fun k hh hs hr ha x9 x10 x11 x12 x14 x15 x17 x23 t0 t1 t2 => V895 k (zS hh) (zS hs) (zS hr) (zS ha) (zI x9) (zI x10) (zI x11) (zI x12) (zI x14) (zI x15) (zI x17) (zI x23) (zI t0) (zI t1) (zI t2)) (fun k hh hs hr ha x9 x10 x11 x12 x14 x15 x17 x23 => V903 k (zS hh) (zS hs) (zS hr) (zS ha) (zI x9) (zI x10) (zI x11) (zI x12) (zI x14) (zI x15) (zI x17) (zI x23)) (fun k hh hs hr ha x9 x10 x11 x12 x14 x15 x17 x23 t0 => V904 k (zS hh) (zS hs) (zS hr) (zS ha) (zI x9) (zI x10) (zI x11) (zI x12) (zI x14) (zI x15) (zI x17) (zI x23) (zI t0)) (fun k hh hs hr ha x9 x10 x11 x12 x13 x14 x15 x17 x23 x25 x26 => V919 k (zS hh) (zS hs) (zS hr) (zS ha) (zI x9) (zI x10) (zI x11) (zI x12) (zI x13) (zI x14) (zI x15) (zI x17) (zI x23) (zI x25) (zI x26)) (fun k hh hs hr ha x9 x10 x11 x12 x13 x14 x15 x17 x18 x19 x20 x21 x22 => V987 k (zS hh) (zS hs) (zS hr) (zS ha) (zI x9) (zI x10) (zI x11) (zI x12) (zI x13) (zI x14) (zI x15) (zI x17) (zI x18) (zI x19) (zI x20) (zI x21) (zI x22)) (fun k hh hs hr ha x9 x10 x11 x12 x14 x15 x17 x19 t0 => V1020 k (zS hh) (zS hs) (zS hr) (zS ha) (zI x9) (zI x10) (zI x11) (zI x12) (zI x14) (zI x15) (zI x17) (zI x19) (zI t0)) (fun k hh hs hr ha x9 x10 x11 x12 x13 x14 x15 x17 x18 x19 x20 x21 x22 => V1108 k (zS hh) (zS hs) (zS hr) (zS ha) (zI x9) (zI x10) (zI x11) (zI x12) (zI x13) (zI x14) (zI x15) (zI x17) (zI x18) (zI x19) (zI x20) (zI x21) (zI x22)) (fun k hh hs hr ha x9 x10 x11 x12 x14 x15 x17 x19 x23 => V1147 k (zS hh) (zS hs) (zS hr) (zS ha) (zI x9) (zI x10) (zI x11) (zI x12) (zI x14) (zI x15) (zI x17) (zI x19) (zI x23)) (fun k hh hs hr ha x9 x10 x11 x12 x14 x15 x17 x19 x23 t0 => V1148 k (zS hh) (zS hs) (zS hr) (zS ha) (zI x9) (zI x10) (zI x11) (zI x12) (zI x14) (zI x15) (zI x17) (zI x19) (zI x23) (zI t0)) (fun k hh hs hr ha x9 x10 x11 x12 x14 x15 x17 x19 x23 x24 => V1172 k (zS hh) (zS hs) (zS hr) (zS ha) (zI x9) (zI x10) (zI x11) (zI x12) (zI x14) (zI x15) (zI x17) (zI x19) (zI x23) (zI x24)) (fun k hh hs hr ha x9 x10 x11 x12 x14 x15 x17 x19 x23 x24 t0 => V1173 k (zS hh) (zS hs) (zS hr) (zS ha) (zI x9) (zI x10) (zI x11) (zI x12) (zI x14) (zI x15) (zI x17) (zI x19) (zI x23) (zI x24) (zI t0)) (fun k hh hs hr ha x9 x10 x11 x12 x14 x15 x17 x19 x23 x24 x25 x26 t0 => V1198 k (zS hh) (zS hs) (zS hr) (zS ha) (zI x9) (zI x10) (zI x11) (zI x12) (zI x14) (zI x15) (zI x17) (zI x19) (zI x23) (zI x24) (zI x25) (zI x26) (zI t0)) (fun k hh hs hr ha x9 x10 x11 x12 x14 x15 x17 x19 x23 x24 x26 t0 t1 => V1208 k (zS hh) (zS hs) (zS hr) (zS ha) (zI x9) (zI x10) (zI x11) (zI x12) (zI x14) (zI x15) (zI x17) (zI x19) (zI x23) (zI x24) (zI x26) (zI t0) (zI t1)) (fun k hh hs hr ha x9 x10 x11 x12 x14 x15 x17 x19 x26 => V1261 k (zS hh) (zS hs) (zS hr) (zS ha) (zI x9) (zI x10) (zI x11) (zI x12) (zI x14) (zI x15) (zI x17) (zI x19) (zI x26)) (fun k hh hs hr ha x9 x10 x11 x12 x14 x15 x17 x19 x26 => V1265 k (zS hh) (zS hs) (zS hr) (zS ha) (zI x9) (zI x10) (zI x11) (zI x12) (zI x14) (zI x15) (zI x17) (zI x19) (zI x26)) (fun k hh hs hr ha x9 x10 x11 x12 x14 x15 x17 x19 x26 t0 => V1266 k (zS hh) (zS hs) (zS hr) (zS ha) (zI x9) (zI x10) (zI x11) (zI x12) (zI x14) (zI x15) (zI x17) (zI x19) (zI x26) (zI t0)) (fun k hh hs hr ha x9 x10 x11 x12 x13 x14 x15 x17 x18 x19 x20 x21 x22 => V1290 k (zS hh) (zS hs) (zS hr) (zS ha) (zI x9) (zI x10) (zI x11) (zI x12) (zI x13) (zI x14) (zI x15) (zI x17) (zI x18) (zI x19) (zI x20) (zI x21) (zI x22)) (fun k hh hs hr ha x9 x10 x11 x12 x13 x14 x15 x17 x19 x20 x22 x23 x25 x26 => V1358 k (zS hh) (zS hs) (zS hr) (zS ha) (zI x9) (zI x10) (zI x11) (zI x12) (zI x13) (zI x14) (zI x15) (zI x17) (zI x19) (zI x20) (zI x22) (zI x23) (zI x25) (zI x26)) (fun k hh hs hr ha x9 x10 x11 x12 x13 x14 x15 x17 x22 x23 => V1461 k (zS hh) (zS hs) (zS hr) (zS ha) (zI x9) (zI x10) (zI x11) (zI x12) (zI x13) (zI x14) (zI x15) (zI x17) (zI x22) (zI x23)) (fun k hh hs hr ha x9 x10 x11 x12 x13 x14 x15 x17 x18 x19 x21 x22 => V1489 k (zS hh) (zS hs) (zS hr) (zS ha) (zI x9) (zI x10) (zI x11) (zI x12) (zI x13) (zI x14) (zI x15) (zI x17) (zI x18) (zI x19) (zI x21) (zI x22)) (fun k hh hs hr ha x9 x10 x11 x12 x14 x15 x17 x19 x22 t0 => V1522 k (zS hh) (zS hs) (zS hr) (zS ha) (zI x9) (zI x10) (zI x11) (zI x12) (zI x14) (zI x15) (zI x17) (zI x19) (zI x22) (zI t0)) (fun k hh hs hr ha x9 x10 x11 x12 x14 x15 x17 x19 x21 x22 x23 x24 t0 => V1559 k (zS hh) (zS hs) (zS hr) (zS ha) (zI x9) (zI x10) (zI x11) (zI x12) (zI x14) (zI x15) (zI x17) (zI x19) (zI x21) (zI x22) (zI x23) (zI x24) (zI t0)) (fun k hh hs hr ha x9 x10 x11 x12 x13 x14 x15 x17 x18 x21 x22 => V1672 k (zS hh) (zS hs) (zS hr) (zS ha) (zI x9) (zI x10) (zI x11) (zI x12) (zI x13) (zI x14) (zI x15) (zI x17) (zI x18) (zI x21) (zI x22)) (fun k hh hs hr ha x9 x10 x11 x12 x13 x14 x15 x17 => V1770 k (zS hh) (zS hs) (zS hr) (zS ha) (zI x9) (zI x10) (zI x11) (zI x12) (zI x13) (zI x14) (zI x15) (zI x17)) (fun k hh hs hr ha x9 x10 x11 x12 x14 x15 x17 => V1795 k (zS hh) (zS hs) (zS hr) (zS ha) (zI x9) (zI x10) (zI x11) (zI x12) (zI x14) (zI x15) (zI x17)) (fun k hh hs hr ha x9 x10 x11 x12 x14 x15 x17 => V1818 k (zS hh) (zS hs) (zS hr) (zS ha) (zI x9) (zI x10) (zI x11) (zI x12) (zI x14) (zI x15) (zI x17)) (fun k hh hs hr ha x9 x10 x11 x12 x14 x15 x17 => V1836 k (zS hh) (zS hs) (zS hr) (zS ha) (zI x9) (zI x10) (zI x11) (zI x12) (zI x14) (zI x15) (zI x17)) (fun k hh hs hr ha x9 x10 x11 x12 x14 x15 x17 t0 => V1837 k (zS hh) (zS hs) (zS hr) (zS ha) (zI x9) (zI x10) (zI x11) (zI x12) (zI x14) (zI x15) (zI x17) (zI t0)) (fun k hh hs hr ha x9 x10 x11 x12 x14 x15 x19 x23 t0 => V1897 k (zS hh) (zS hs) (zS hr) (zS ha) (zI x9) (zI x10) (zI x11) (zI x12) (zI x14) (zI x15) (zI x19) (zI x23) (zI t0)) (fun k hh hs hr ha x9 x10 x11 x12 x14 x15 x19 x23 t0 t1 => V1912 k (zS hh) (zS hs) (zS hr) (zS ha) (zI x9) (zI x10) (zI x11) (zI x12) (zI x14) (zI x15) (zI x19) (zI x23) (zI t0) (zI t1))
  have hq := hq (by
    intro k hh hs hr ha x9 x10 x11 x12 hq
    refine k78 k (zS hh) (zS hs) (zS hr) (zS ha) (zI x9) (zI x10) (zI x11) (zI x12) ?_
    try simp only [z_m1, z_0, z_1, z_2, z_3, z_4, z_5, z_6, z_8, z_9, z_10, z_12, z_16, z_30, z_31, z_99, z_300, z_500, z_600, z_20000, z_m13, z_m11, z_7, z_11, z_13, z_15, z_18, z_40, z_80, z_100, z_120, z_150, z_179, z_210, z_999, z_104021, z_268435455, z_3070017, z_nL, zadd, zsub, zmul, zneg, zap]
    exact hq)
  have hq := hq (by
    intro k hh hs hr ha x9 x10 x11 x12 t0 hq
    refine k79 k (zS hh) (zS hs) (zS hr) (zS ha) (zI x9) (zI x10) (zI x11) (zI x12) (zI t0) ?_
    try simp only [z_m1, z_0, z_1, z_2, z_3, z_4, z_5, z_6, z_8, z_9, z_10, z_12, z_16, z_30, z_31, z_99, z_300, z_500, z_600, z_20000, z_m13, z_m11, z_7, z_11, z_13, z_15, z_18, z_40, z_80, z_100, z_120, z_150, z_179, z_210, z_999, z_104021, z_268435455, z_3070017, z_nL, zadd, zsub, zmul, zneg, zap]
    have rx := hq.1
    have hq := hq.2
    refine ⟨fun c => ?_, fun c => ?_⟩
    · have hq := hq.1 ((z_le ⟨by decide, by decide⟩ rx).mp c)
      have rx := hq.1
      have hq := hq.2
      refine ⟨fun c => ?_, fun c => ?_⟩
      · have hq := hq.1 ((z_le ⟨by decide, by decide⟩ rx).mp c)
        exact hq
      · have hq := hq.2 (fun h => c ((z_le ⟨by decide, by decide⟩ rx).mpr h))
        exact hq
    · have hq := hq.2 (fun h => c ((z_le ⟨by decide, by decide⟩ rx).mpr h))
      exact hq)
  have hq := hq (by
    intro k hh hs hr ha x9 x10 x11 x12 x13 x14 x15 hq
    refine k116 k (zS hh) (zS hs) (zS hr) (zS ha) (zI x9) (zI x10) (zI x11) (zI x12) (zI x13) (zI x14) (zI x15) ?_
    try simp only [z_m1, z_0, z_1, z_2, z_3, z_4, z_5, z_6, z_8, z_9, z_10, z_12, z_16, z_30, z_31, z_99, z_300, z_500, z_600, z_20000, z_m13, z_m11, z_7, z_11, z_13, z_15, z_18, z_40, z_80, z_100, z_120, z_150, z_179, z_210, z_999, z_104021, z_268435455, z_3070017, z_nL, zadd, zsub, zmul, zneg, zap]
    have rx := hq.1
    have hq := hq.2
    have ry := hq.1
    have hq := hq.2
    refine ⟨fun c => ?_, fun c => ?_⟩
    · have hq := hq.1 ((z_le ry rx).mp c)
      exact ⟨hq.1, congrArg zI hq.2⟩
    · have hq := hq.2 (fun h => c ((z_le ry rx).mpr h))
      have rx := hq.1
      have hq := hq.2
      refine ⟨fun c => ?_, fun c => ?_⟩
      · have hq := hq.1 ((z_eq rx ⟨by decide, by decide⟩).mp c)
        exact ⟨hq.1, congrArg zI hq.2⟩
      · have hq := hq.2 (fun h => c ((z_eq rx ⟨by decide, by decide⟩).mpr h))
        have rx := hq.1
        have hq := hq.2
        have ry := hq.1
        have hq := hq.2
        refine ⟨fun c => ?_, fun c => ?_⟩
        · have hq := hq.1 ((z_le ry rx).mp c)
          exact hq
        · have hq := hq.2 (fun h => c ((z_le ry rx).mpr h))
          refine ⟨zin hq.1.1 hq.1.2 (by omega), ?_⟩
          generalize xs (zI x15).toNatClampNeg = w9
          rw [← zI_of w9]
          have hq := hq.2 w9.toInt (inR_of w9)
          generalize w9.toInt = z3 at hq ⊢
          exact hq)
  have hq := hq (by
    intro k hh hs hr ha x9 x10 x11 x12 x13 x14 x15 t0 hq
    refine k160 k (zS hh) (zS hs) (zS hr) (zS ha) (zI x9) (zI x10) (zI x11) (zI x12) (zI x13) (zI x14) (zI x15) (zI t0) ?_
    try simp only [z_m1, z_0, z_1, z_2, z_3, z_4, z_5, z_6, z_8, z_9, z_10, z_12, z_16, z_30, z_31, z_99, z_300, z_500, z_600, z_20000, z_m13, z_m11, z_7, z_11, z_13, z_15, z_18, z_40, z_80, z_100, z_120, z_150, z_179, z_210, z_999, z_104021, z_268435455, z_3070017, z_nL, zadd, zsub, zmul, zneg, zap]
    intro w9 e9
    clear e9
    rw [← zI_of w9]
    have hq := hq w9.toInt (inR_of w9)
    generalize w9.toInt = z4 at hq ⊢
    try simp only [z_m1, z_0, z_1, z_2, z_3, z_4, z_5, z_6, z_8, z_9, z_10, z_12, z_16, z_30, z_31, z_99, z_300, z_500, z_600, z_20000, z_m13, z_m11, z_7, z_11, z_13, z_15, z_18, z_40, z_80, z_100, z_120, z_150, z_179, z_210, z_999, z_104021, z_268435455, z_3070017, z_nL, zadd, zsub, zmul, zneg, zap]
    intro w9 e9
    have zb : 0 ≤ w9.toInt ∧ w9.toInt ≤ 268435455 := by rw [e9]; exact zand_b _ 268435455 (by decide)
    clear e9
    rw [← zI_of w9]
    have hq := hq w9.toInt zb.1 zb.2
    generalize w9.toInt = z5 at hq ⊢
    try simp only [z_m1, z_0, z_1, z_2, z_3, z_4, z_5, z_6, z_8, z_9, z_10, z_12, z_16, z_30, z_31, z_99, z_300, z_500, z_600, z_20000, z_m13, z_m11, z_7, z_11, z_13, z_15, z_18, z_40, z_80, z_100, z_120, z_150, z_179, z_210, z_999, z_104021, z_268435455, z_3070017, z_nL, zadd, zsub, zmul, zneg, zap]
    have rx := hq.1
    have hq := hq.2
    refine ⟨fun c => ?_, fun c => ?_⟩
    · have hq := hq.1 ((z_le ⟨by decide, by decide⟩ rx).mp c)
      have rx := hq.1
      have hq := hq.2
      refine ⟨fun c => ?_, fun c => ?_⟩
      · have hq := hq.1 ((z_le ⟨by decide, by decide⟩ rx).mp c)
        have rx := hq.1
        have hq := hq.2
        refine ⟨fun c => ?_, fun c => ?_⟩
        · have hq := hq.1 ((z_le ⟨by decide, by decide⟩ rx).mp c)
          have rx := hq.1
          have hq := hq.2
          refine ⟨fun c => ?_, fun c => ?_⟩
          · have hq := hq.1 ((z_le ⟨by decide, by decide⟩ rx).mp c)
            intro w9 e9
            have zb : 0 ≤ w9.toInt ∧ w9.toInt ≤ 15 := by rw [e9]; exact zand_b _ 15 (by decide)
            clear e9
            rw [← zI_of w9]
            have hq := hq w9.toInt zb.1 zb.2
            generalize w9.toInt = z6 at hq ⊢
            try simp only [z_m1, z_0, z_1, z_2, z_3, z_4, z_5, z_6, z_8, z_9, z_10, z_12, z_16, z_30, z_31, z_99, z_300, z_500, z_600, z_20000, z_m13, z_m11, z_7, z_11, z_13, z_15, z_18, z_40, z_80, z_100, z_120, z_150, z_179, z_210, z_999, z_104021, z_268435455, z_3070017, z_nL, zadd, zsub, zmul, zneg, zap]
            exact hq
          · have hq := hq.2 (fun h => c ((z_le ⟨by decide, by decide⟩ rx).mpr h))
            exact hq
        · have hq := hq.2 (fun h => c ((z_le ⟨by decide, by decide⟩ rx).mpr h))
          exact hq
      · have hq := hq.2 (fun h => c ((z_le ⟨by decide, by decide⟩ rx).mpr h))
        exact hq
    · have hq := hq.2 (fun h => c ((z_le ⟨by decide, by decide⟩ rx).mpr h))
      exact hq)
  have hq := hq (by
    intro k hh hs hr ha x9 x10 x11 x12 x13 x14 x15 x17 t0 hq
    refine k218 k (zS hh) (zS hs) (zS hr) (zS ha) (zI x9) (zI x10) (zI x11) (zI x12) (zI x13) (zI x14) (zI x15) (zI x17) (zI t0) ?_
    try simp only [z_m1, z_0, z_1, z_2, z_3, z_4, z_5, z_6, z_8, z_9, z_10, z_12, z_16, z_30, z_31, z_99, z_300, z_500, z_600, z_20000, z_m13, z_m11, z_7, z_11, z_13, z_15, z_18, z_40, z_80, z_100, z_120, z_150, z_179, z_210, z_999, z_104021, z_268435455, z_3070017, z_nL, zadd, zsub, zmul, zneg, zap]
    have rx := hq.1
    have hq := hq.2
    refine ⟨fun c => ?_, fun c => ?_⟩
    · have hq := hq.1 (fun h => c ((z_eq rx ⟨by decide, by decide⟩).mpr h))
      refine ⟨fun c0 => absurd ((z_eq (by have := hq.2.1; unfold inR; omega) ⟨by decide, by decide⟩).mp c0) (by have := hq.2.1; omega), ?_⟩
      intro w9 e9
      rw [zrem hq.1 hq.2.1] at e9
      subst e9
      have zb := zrem_b hq.1.1 hq.2.1.1
      have hq := hq.2.2 _ zb.1 zb.2.1 zb.2.2
      generalize x17 % x10 = z7 at hq ⊢
      try simp only [z_m1, z_0, z_1, z_2, z_3, z_4, z_5, z_6, z_8, z_9, z_10, z_12, z_16, z_30, z_31, z_99, z_300, z_500, z_600, z_20000, z_m13, z_m11, z_7, z_11, z_13, z_15, z_18, z_40, z_80, z_100, z_120, z_150, z_179, z_210, z_999, z_104021, z_268435455, z_3070017, z_nL, zadd, zsub, zmul, zneg, zap]
      exact hq
    · have hq := hq.2 ((z_eq rx ⟨by decide, by decide⟩).mp c)
      exact hq)
  have hq := hq (by
    intro k hh hs hr ha x9 x10 x11 x12 x13 x14 x15 x17 x18 t0 hq
    refine k234 k (zS hh) (zS hs) (zS hr) (zS ha) (zI x9) (zI x10) (zI x11) (zI x12) (zI x13) (zI x14) (zI x15) (zI x17) (zI x18) (zI t0) ?_
    try simp only [z_m1, z_0, z_1, z_2, z_3, z_4, z_5, z_6, z_8, z_9, z_10, z_12, z_16, z_30, z_31, z_99, z_300, z_500, z_600, z_20000, z_m13, z_m11, z_7, z_11, z_13, z_15, z_18, z_40, z_80, z_100, z_120, z_150, z_179, z_210, z_999, z_104021, z_268435455, z_3070017, z_nL, zadd, zsub, zmul, zneg, zap]
    have rx := hq.1
    have hq := hq.2
    refine ⟨fun c => ?_, fun c => ?_⟩
    · have hq := hq.1 (fun h => c ((z_eq rx ⟨by decide, by decide⟩).mpr h))
      refine ⟨fun c0 => absurd ((z_eq (by have := hq.2.1; unfold inR; omega) ⟨by decide, by decide⟩).mp c0) (by have := hq.2.1; omega), ?_⟩
      intro w9 e9
      rw [zrem hq.1 hq.2.1] at e9
      subst e9
      have zb := zrem_b hq.1.1 hq.2.1.1
      have hq := hq.2.2 _ zb.1 zb.2.1 zb.2.2
      generalize x17 % x11 = z8 at hq ⊢
      try simp only [z_m1, z_0, z_1, z_2, z_3, z_4, z_5, z_6, z_8, z_9, z_10, z_12, z_16, z_30, z_31, z_99, z_300, z_500, z_600, z_20000, z_m13, z_m11, z_7, z_11, z_13, z_15, z_18, z_40, z_80, z_100, z_120, z_150, z_179, z_210, z_999, z_104021, z_268435455, z_3070017, z_nL, zadd, zsub, zmul, zneg, zap]
      exact hq
    · have hq := hq.2 ((z_eq rx ⟨by decide, by decide⟩).mp c)
      exact hq)
  have hq := hq (by
    intro k hh hs hr ha x9 x10 x11 x12 x13 x14 x15 x17 x18 x19 t0 hq
    refine k250 k (zS hh) (zS hs) (zS hr) (zS ha) (zI x9) (zI x10) (zI x11) (zI x12) (zI x13) (zI x14) (zI x15) (zI x17) (zI x18) (zI x19) (zI t0) ?_
    try simp only [z_m1, z_0, z_1, z_2, z_3, z_4, z_5, z_6, z_8, z_9, z_10, z_12, z_16, z_30, z_31, z_99, z_300, z_500, z_600, z_20000, z_m13, z_m11, z_7, z_11, z_13, z_15, z_18, z_40, z_80, z_100, z_120, z_150, z_179, z_210, z_999, z_104021, z_268435455, z_3070017, z_nL, zadd, zsub, zmul, zneg, zap]
    have rx := hq.1
    have hq := hq.2
    refine ⟨fun c => ?_, fun c => ?_⟩
    · have hq := hq.1 (fun h => c ((z_eq rx ⟨by decide, by decide⟩).mpr h))
      refine ⟨fun c0 => absurd ((z_eq (by have := hq.2.1; unfold inR; omega) ⟨by decide, by decide⟩).mp c0) (by have := hq.2.1; omega), ?_⟩
      intro w9 e9
      rw [zrem hq.1 hq.2.1] at e9
      subst e9
      have zb := zrem_b hq.1.1 hq.2.1.1
      have hq := hq.2.2 _ zb.1 zb.2.1 zb.2.2
      generalize x17 % x12 = z9 at hq ⊢
      try simp only [z_m1, z_0, z_1, z_2, z_3, z_4, z_5, z_6, z_8, z_9, z_10, z_12, z_16, z_30, z_31, z_99, z_300, z_500, z_600, z_20000, z_m13, z_m11, z_7, z_11, z_13, z_15, z_18, z_40, z_80, z_100, z_120, z_150, z_179, z_210, z_999, z_104021, z_268435455, z_3070017, z_nL, zadd, zsub, zmul, zneg, zap]
      exact hq
    · have hq := hq.2 ((z_eq rx ⟨by decide, by decide⟩).mp c)
      exact hq)
  have hq := hq (by
    intro k hh hs hr ha x9 x10 x11 x12 x13 x14 x15 x17 x18 x19 x20 t0 hq
    refine k266 k (zS hh) (zS hs) (zS hr) (zS ha) (zI x9) (zI x10) (zI x11) (zI x12) (zI x13) (zI x14) (zI x15) (zI x17) (zI x18) (zI x19) (zI x20) (zI t0) ?_
    try simp only [z_m1, z_0, z_1, z_2, z_3, z_4, z_5, z_6, z_8, z_9, z_10, z_12, z_16, z_30, z_31, z_99, z_300, z_500, z_600, z_20000, z_m13, z_m11, z_7, z_11, z_13, z_15, z_18, z_40, z_80, z_100, z_120, z_150, z_179, z_210, z_999, z_104021, z_268435455, z_3070017, z_nL, zadd, zsub, zmul, zneg, zap]
    intro w9 e9
    rw [zshr hq.1 hq.2.1] at e9
    subst e9
    have zb := zshr_b (y := (5 : Int)) hq.1.1
    have hq := hq.2.2 _ zb.1 zb.2
    generalize ishr x17 (5 : Int) = z10 at hq ⊢
    try simp only [z_m1, z_0, z_1, z_2, z_3, z_4, z_5, z_6, z_8, z_9, z_10, z_12, z_16, z_30, z_31, z_99, z_300, z_500, z_600, z_20000, z_m13, z_m11, z_7, z_11, z_13, z_15, z_18, z_40, z_80, z_100, z_120, z_150, z_179, z_210, z_999, z_104021, z_268435455, z_3070017, z_nL, zadd, zsub, zmul, zneg, zap]
    refine ⟨fun c0 => absurd ((z_eq (by have := hq.2.1; unfold inR; omega) ⟨by decide, by decide⟩).mp c0) (by have := hq.2.1; omega), ?_⟩
    intro w9 e9
    rw [zrem hq.1 hq.2.1] at e9
    subst e9
    have zb := zrem_b hq.1.1 hq.2.1.1
    have hq := hq.2.2 _ zb.1 zb.2.1 zb.2.2
    generalize z10 % (4 : Int) = z11 at hq ⊢
    try simp only [z_m1, z_0, z_1, z_2, z_3, z_4, z_5, z_6, z_8, z_9, z_10, z_12, z_16, z_30, z_31, z_99, z_300, z_500, z_600, z_20000, z_m13, z_m11, z_7, z_11, z_13, z_15, z_18, z_40, z_80, z_100, z_120, z_150, z_179, z_210, z_999, z_104021, z_268435455, z_3070017, z_nL, zadd, zsub, zmul, zneg, zap]
    have rx := hq.1
    have hq := hq.2
    refine ⟨fun c => ?_, fun c => ?_⟩
    · have hq := hq.1 (fun h => c ((z_eq rx ⟨by decide, by decide⟩).mpr h))
      exact hq
    · have hq := hq.2 ((z_eq rx ⟨by decide, by decide⟩).mp c)
      have rx := hq.1
      have hq := hq.2
      refine ⟨fun c => ?_, fun c => ?_⟩
      · have hq := hq.1 ((z_le ⟨by decide, by decide⟩ rx).mp c)
        exact hq
      · have hq := hq.2 (fun h => c ((z_le ⟨by decide, by decide⟩ rx).mpr h))
        refine ⟨fun c0 => absurd ((z_eq (by have := hq.2.1; unfold inR; omega) ⟨by decide, by decide⟩).mp c0) (by have := hq.2.1; omega), ?_⟩
        intro w9 e9
        rw [zrem hq.1 hq.2.1] at e9
        subst e9
        have zb := zrem_b hq.1.1 hq.2.1.1
        have hq := hq.2.2 _ zb.1 zb.2.1 zb.2.2
        generalize x17 % (5 : Int) = z12 at hq ⊢
        try simp only [z_m1, z_0, z_1, z_2, z_3, z_4, z_5, z_6, z_8, z_9, z_10, z_12, z_16, z_30, z_31, z_99, z_300, z_500, z_600, z_20000, z_m13, z_m11, z_7, z_11, z_13, z_15, z_18, z_40, z_80, z_100, z_120, z_150, z_179, z_210, z_999, z_104021, z_268435455, z_3070017, z_nL, zadd, zsub, zmul, zneg, zap]
        refine ⟨zin hq.1.1 hq.1.2 (by decide), ?_⟩
        try simp only [zcl hq.1.1 (Int.lt_trans hq.1.2 (by decide))]
        have hq := hq.2
        intro g9 eg9
        rw [zset] at eg9
        subst eg9
        have hq := hq _ rfl
        generalize iset ha 0 x9.toNat ((2 : Int) + z12) = h13 at hq ⊢
        try simp only [z_m1, z_0, z_1, z_2, z_3, z_4, z_5, z_6, z_8, z_9, z_10, z_12, z_16, z_30, z_31, z_99, z_300, z_500, z_600, z_20000, z_m13, z_m11, z_7, z_11, z_13, z_15, z_18, z_40, z_80, z_100, z_120, z_150, z_179, z_210, z_999, z_104021, z_268435455, z_3070017, z_nL, zadd, zsub, zmul, zneg, zap]
        obtain ⟨hkb, r14, hr14, hq⟩ := hq
        refine ⟨hkb, zI r14, t_X4_waiting hh hs hr r14 hr14, ?_⟩
        try simp only [z_m1, z_0, z_1, z_2, z_3, z_4, z_5, z_6, z_8, z_9, z_10, z_12, z_16, z_30, z_31, z_99, z_300, z_500, z_600, z_20000, z_m13, z_m11, z_7, z_11, z_13, z_15, z_18, z_40, z_80, z_100, z_120, z_150, z_179, z_210, z_999, z_104021, z_268435455, z_3070017, z_nL, zadd, zsub, zmul, zneg, zap]
        refine ⟨zin hq.1.1 hq.1.2 (by decide), ?_⟩
        try simp only [zcl hq.1.1 (Int.lt_trans hq.1.2 (by decide))]
        have hq := hq.2
        try simp only [z_m1, z_0, z_1, z_2, z_3, z_4, z_5, z_6, z_8, z_9, z_10, z_12, z_16, z_30, z_31, z_99, z_300, z_500, z_600, z_20000, z_m13, z_m11, z_7, z_11, z_13, z_15, z_18, z_40, z_80, z_100, z_120, z_150, z_179, z_210, z_999, z_104021, z_268435455, z_3070017, z_nL, zadd, zsub, zmul, zneg, zap]
        refine ⟨hq.1, tn_X4_addTable hh hs hr (h13 0 x9.toNat) _ _ (fun r15 hh16 hs17 hr18 hq => ?_) hq.2⟩
        try simp only [z_m1, z_0, z_1, z_2, z_3, z_4, z_5, z_6, z_8, z_9, z_10, z_12, z_16, z_30, z_31, z_99, z_300, z_500, z_600, z_20000, z_m13, z_m11, z_7, z_11, z_13, z_15, z_18, z_40, z_80, z_100, z_120, z_150, z_179, z_210, z_999, z_104021, z_268435455, z_3070017, z_nL, zadd, zsub, zmul, zneg, zap]
        have rx := hq.1
        have hq := hq.2
        have ry := hq.1
        have hq := hq.2
        refine ⟨fun c => ?_, fun c => ?_⟩
        · have hq := hq.1 (fun h => c ((z_eq rx ry).mpr h))
          exact hq
        · have hq := hq.2 ((z_eq rx ry).mp c)
          obtain ⟨hkb, r19, hr19, hq⟩ := hq
          refine ⟨hkb, zI r19, t_X4_waiting hh16 hs17 hr18 r19 hr19, ?_⟩
          try simp only [z_m1, z_0, z_1, z_2, z_3, z_4, z_5, z_6, z_8, z_9, z_10, z_12, z_16, z_30, z_31, z_99, z_300, z_500, z_600, z_20000, z_m13, z_m11, z_7, z_11, z_13, z_15, z_18, z_40, z_80, z_100, z_120, z_150, z_179, z_210, z_999, z_104021, z_268435455, z_3070017, z_nL, zadd, zsub, zmul, zneg, zap]
          have rx := hq.1
          have hq := hq.2
          have ry := hq.1
          have hq := hq.2
          refine ⟨fun c => ?_, fun c => ?_⟩
          · have hq := hq.1 (fun h => c ((z_eq rx ry).mpr h))
            exact hq
          · have hq := hq.2 ((z_eq rx ry).mp c)
            exact hq)
  have hq := hq (by
    intro k hh hs hr ha x9 x10 x11 x12 x14 x15 x17 hq
    refine k330 k (zS hh) (zS hs) (zS hr) (zS ha) (zI x9) (zI x10) (zI x11) (zI x12) (zI x14) (zI x15) (zI x17) ?_
    try simp only [z_m1, z_0, z_1, z_2, z_3, z_4, z_5, z_6, z_8, z_9, z_10, z_12, z_16, z_30, z_31, z_99, z_300, z_500, z_600, z_20000, z_m13, z_m11, z_7, z_11, z_13, z_15, z_18, z_40, z_80, z_100, z_120, z_150, z_179, z_210, z_999, z_104021, z_268435455, z_3070017, z_nL, zadd, zsub, zmul, zneg, zap]
    exact hq)
  have hq := hq (by
    intro k hh hs hr ha x9 x10 x11 x12 x14 x15 x17 t0 hq
    refine k331 k (zS hh) (zS hs) (zS hr) (zS ha) (zI x9) (zI x10) (zI x11) (zI x12) (zI x14) (zI x15) (zI x17) (zI t0) ?_
    try simp only [z_m1, z_0, z_1, z_2, z_3, z_4, z_5, z_6, z_8, z_9, z_10, z_12, z_16, z_30, z_31, z_99, z_300, z_500, z_600, z_20000, z_m13, z_m11, z_7, z_11, z_13, z_15, z_18, z_40, z_80, z_100, z_120, z_150, z_179, z_210, z_999, z_104021, z_268435455, z_3070017, z_nL, zadd, zsub, zmul, zneg, zap]
    exact hq)
  have hq := hq (by
    intro k hh hs hr ha x9 x10 x11 x12 x13 x14 x15 x17 x18 x19 x20 x21 x22 hq
    refine k339 k (zS hh) (zS hs) (zS hr) (zS ha) (zI x9) (zI x10) (zI x11) (zI x12) (zI x13) (zI x14) (zI x15) (zI x17) (zI x18) (zI x19) (zI x20) (zI x21) (zI x22) ?_
    try simp only [z_m1, z_0, z_1, z_2, z_3, z_4, z_5, z_6, z_8, z_9, z_10, z_12, z_16, z_30, z_31, z_99, z_300, z_500, z_600, z_20000, z_m13, z_m11, z_7, z_11, z_13, z_15, z_18, z_40, z_80, z_100, z_120, z_150, z_179, z_210, z_999, z_104021, z_268435455, z_3070017, z_nL, zadd, zsub, zmul, zneg, zap]
    have rx := hq.1
    have hq := hq.2
    refine ⟨fun c => ?_, fun c => ?_⟩
    · have hq := hq.1 (fun h => c ((z_eq rx ⟨by decide, by decide⟩).mpr h))
      exact hq
    · have hq := hq.2 ((z_eq rx ⟨by decide, by decide⟩).mp c)
      have rx := hq.1
      have hq := hq.2
      refine ⟨fun c => ?_, fun c => ?_⟩
      · have hq := hq.1 ((z_le ⟨by decide, by decide⟩ rx).mp c)
        exact hq
      · have hq := hq.2 (fun h => c ((z_le ⟨by decide, by decide⟩ rx).mpr h))
        refine ⟨fun c0 => absurd ((z_eq (by have := hq.2.1; unfold inR; omega) ⟨by decide, by decide⟩).mp c0) (by have := hq.2.1; omega), ?_⟩
        intro w9 e9
        rw [zrem hq.1 hq.2.1] at e9
        subst e9
        have zb := zrem_b hq.1.1 hq.2.1.1
        have hq := hq.2.2 _ zb.1 zb.2.1 zb.2.2
        generalize x17 % (4 : Int) = z20 at hq ⊢
        try simp only [z_m1, z_0, z_1, z_2, z_3, z_4, z_5, z_6, z_8, z_9, z_10, z_12, z_16, z_30, z_31, z_99, z_300, z_500, z_600, z_20000, z_m13, z_m11, z_7, z_11, z_13, z_15, z_18, z_40, z_80, z_100, z_120, z_150, z_179, z_210, z_999, z_104021, z_268435455, z_3070017, z_nL, zadd, zsub, zmul, zneg, zap]
        refine ⟨zin hq.1.1 hq.1.2 (by decide), ?_⟩
        try simp only [zcl hq.1.1 (Int.lt_trans hq.1.2 (by decide))]
        have hq := hq.2
        intro g9 eg9
        rw [zset] at eg9
        subst eg9
        have hq := hq _ rfl
        generalize iset ha 5 ((3 : Int) * x11).toNat ((1 : Int) + z20) = h21 at hq ⊢
        try simp only [z_m1, z_0, z_1, z_2, z_3, z_4, z_5, z_6, z_8, z_9, z_10, z_12, z_16, z_30, z_31, z_99, z_300, z_500, z_600, z_20000, z_m13, z_m11, z_7, z_11, z_13, z_15, z_18, z_40, z_80, z_100, z_120, z_150, z_179, z_210, z_999, z_104021, z_268435455, z_3070017, z_nL, zadd, zsub, zmul, zneg, zap]
        refine ⟨zin hq.1.1 hq.1.2 (by decide), ?_⟩
        try simp only [zcl hq.1.1 (Int.lt_trans hq.1.2 (by decide))]
        have hq := hq.2
        try simp only [z_m1, z_0, z_1, z_2, z_3, z_4, z_5, z_6, z_8, z_9, z_10, z_12, z_16, z_30, z_31, z_99, z_300, z_500, z_600, z_20000, z_m13, z_m11, z_7, z_11, z_13, z_15, z_18, z_40, z_80, z_100, z_120, z_150, z_179, z_210, z_999, z_104021, z_268435455, z_3070017, z_nL, zadd, zsub, zmul, zneg, zap]
        intro w9 e9
        rw [zshr hq.1 hq.2.1] at e9
        subst e9
        have zb := zshr_b (y := (2 : Int)) hq.1.1
        have hq := hq.2.2 _ zb.1 zb.2
        generalize ishr x17 (2 : Int) = z22 at hq ⊢
        try simp only [z_m1, z_0, z_1, z_2, z_3, z_4, z_5, z_6, z_8, z_9, z_10, z_12, z_16, z_30, z_31, z_99, z_300, z_500, z_600, z_20000, z_m13, z_m11, z_7, z_11, z_13, z_15, z_18, z_40, z_80, z_100, z_120, z_150, z_179, z_210, z_999, z_104021, z_268435455, z_3070017, z_nL, zadd, zsub, zmul, zneg, zap]
        refine ⟨zin hq.1.1 hq.1.2 (by decide), ?_⟩
        try simp only [zcl hq.1.1 (Int.lt_trans hq.1.2 (by decide))]
        have hq := hq.2
        try simp only [z_m1, z_0, z_1, z_2, z_3, z_4, z_5, z_6, z_8, z_9, z_10, z_12, z_16, z_30, z_31, z_99, z_300, z_500, z_600, z_20000, z_m13, z_m11, z_7, z_11, z_13, z_15, z_18, z_40, z_80, z_100, z_120, z_150, z_179, z_210, z_999, z_104021, z_268435455, z_3070017, z_nL, zadd, zsub, zmul, zneg, zap]
        refine ⟨fun c0 => absurd ((z_eq (by have := hq.2.1; unfold inR; omega) ⟨by decide, by decide⟩).mp c0) (by have := hq.2.1; omega), ?_⟩
        intro w9 e9
        rw [zrem hq.1 hq.2.1] at e9
        subst e9
        have zb := zrem_b hq.1.1 hq.2.1.1
        have hq := hq.2.2 _ zb.1 zb.2.1 zb.2.2
        generalize z22 % ((13 : Int) - (h21 5 ((3 : Int) * x11).toNat)) = z23 at hq ⊢
        try simp only [z_m1, z_0, z_1, z_2, z_3, z_4, z_5, z_6, z_8, z_9, z_10, z_12, z_16, z_30, z_31, z_99, z_300, z_500, z_600, z_20000, z_m13, z_m11, z_7, z_11, z_13, z_15, z_18, z_40, z_80, z_100, z_120, z_150, z_179, z_210, z_999, z_104021, z_268435455, z_3070017, z_nL, zadd, zsub, zmul, zneg, zap]
        refine ⟨zin hq.1.1 hq.1.2 (by decide), ?_⟩
        try simp only [zcl hq.1.1 (Int.lt_trans hq.1.2 (by decide))]
        have hq := hq.2
        intro g9 eg9
        rw [zset] at eg9
        subst eg9
        have hq := hq _ rfl
        generalize iset h21 5 (((3 : Int) * x11) + (1 : Int)).toNat ((h21 5 ((3 : Int) * x11).toNat) + z23) = h24 at hq ⊢
        try simp only [z_m1, z_0, z_1, z_2, z_3, z_4, z_5, z_6, z_8, z_9, z_10, z_12, z_16, z_30, z_31, z_99, z_300, z_500, z_600, z_20000, z_m13, z_m11, z_7, z_11, z_13, z_15, z_18, z_40, z_80, z_100, z_120, z_150, z_179, z_210, z_999, z_104021, z_268435455, z_3070017, z_nL, zadd, zsub, zmul, zneg, zap]
        intro w9 e9
        rw [zshr hq.1 hq.2.1] at e9
        subst e9
        have zb := zshr_b (y := (6 : Int)) hq.1.1
        have hq := hq.2.2 _ zb.1 zb.2
        generalize ishr x17 (6 : Int) = z25 at hq ⊢
        try simp only [z_m1, z_0, z_1, z_2, z_3, z_4, z_5, z_6, z_8, z_9, z_10, z_12, z_16, z_30, z_31, z_99, z_300, z_500, z_600, z_20000, z_m13, z_m11, z_7, z_11, z_13, z_15, z_18, z_40, z_80, z_100, z_120, z_150, z_179, z_210, z_999, z_104021, z_268435455, z_3070017, z_nL, zadd, zsub, zmul, zneg, zap]
        intro w9 e9
        have zb : 0 ≤ w9.toInt ∧ w9.toInt ≤ 3 := by rw [e9]; exact zand_b _ 3 (by decide)
        clear e9
        rw [← zI_of w9]
        have hq := hq w9.toInt zb.1 zb.2
        generalize w9.toInt = z26 at hq ⊢
        try simp only [z_m1, z_0, z_1, z_2, z_3, z_4, z_5, z_6, z_8, z_9, z_10, z_12, z_16, z_30, z_31, z_99, z_300, z_500, z_600, z_20000, z_m13, z_m11, z_7, z_11, z_13, z_15, z_18, z_40, z_80, z_100, z_120, z_150, z_179, z_210, z_999, z_104021, z_268435455, z_3070017, z_nL, zadd, zsub, zmul, zneg, zap]
        refine ⟨zin hq.1.1 hq.1.2 (by decide), ?_⟩
        try simp only [zcl hq.1.1 (Int.lt_trans hq.1.2 (by decide))]
        have hq := hq.2
        intro g9 eg9
        rw [zset] at eg9
        subst eg9
        have hq := hq _ rfl
        generalize iset h24 5 (((3 : Int) * x11) + (2 : Int)).toNat ((5 : Int) + (z26 * (15 : Int))) = h27 at hq ⊢
        try simp only [z_m1, z_0, z_1, z_2, z_3, z_4, z_5, z_6, z_8, z_9, z_10, z_12, z_16, z_30, z_31, z_99, z_300, z_500, z_600, z_20000, z_m13, z_m11, z_7, z_11, z_13, z_15, z_18, z_40, z_80, z_100, z_120, z_150, z_179, z_210, z_999, z_104021, z_268435455, z_3070017, z_nL, zadd, zsub, zmul, zneg, zap]
        exact hq)
  have hq := hq (by
    intro k hh hs hr ha x9 x10 x11 x12 x14 x15 x17 x23 hq
    refine k421 k (zS hh) (zS hs) (zS hr) (zS ha) (zI x9) (zI x10) (zI x11) (zI x12) (zI x14) (zI x15) (zI x17) (zI x23) ?_
    try simp only [z_m1, z_0, z_1, z_2, z_3, z_4, z_5, z_6, z_8, z_9, z_10, z_12, z_16, z_30, z_31, z_99, z_300, z_500, z_600, z_20000, z_m13, z_m11, z_7, z_11, z_13, z_15, z_18, z_40, z_80, z_100, z_120, z_150, z_179, z_210, z_999, z_104021, z_268435455, z_3070017, z_nL, zadd, zsub, zmul, zneg, zap]
    have rx := hq.1
    have hq := hq.2
    refine ⟨fun c => ?_, fun c => ?_⟩
    · have hq := hq.1 ((z_le ⟨by decide, by decide⟩ rx).mp c)
      refine ⟨zin hq.1.1 hq.1.2 (by decide), ?_⟩
      try simp only [zcl hq.1.1 (Int.lt_trans hq.1.2 (by decide))]
      have hq := hq.2
      try simp only [z_m1, z_0, z_1, z_2, z_3, z_4, z_5, z_6, z_8, z_9, z_10, z_12, z_16, z_30, z_31, z_99, z_300, z_500, z_600, z_20000, z_m13, z_m11, z_7, z_11, z_13, z_15, z_18, z_40, z_80, z_100, z_120, z_150, z_179, z_210, z_999, z_104021, z_268435455, z_3070017, z_nL, zadd, zsub, zmul, zneg, zap]
      refine ⟨zin hq.1.1 hq.1.2 (by decide), ?_⟩
      try simp only [zcl hq.1.1 (Int.lt_trans hq.1.2 (by decide))]
      have hq := hq.2
      try simp only [z_m1, z_0, z_1, z_2, z_3, z_4, z_5, z_6, z_8, z_9, z_10, z_12, z_16, z_30, z_31, z_99, z_300, z_500, z_600, z_20000, z_m13, z_m11, z_7, z_11, z_13, z_15, z_18, z_40, z_80, z_100, z_120, z_150, z_179, z_210, z_999, z_104021, z_268435455, z_3070017, z_nL, zadd, zsub, zmul, zneg, zap]
      refine ⟨zin hq.1.1 hq.1.2 (by decide), ?_⟩
      try simp only [zcl hq.1.1 (Int.lt_trans hq.1.2 (by decide))]
      have hq := hq.2
      try simp only [z_m1, z_0, z_1, z_2, z_3, z_4, z_5, z_6, z_8, z_9, z_10, z_12, z_16, z_30, z_31, z_99, z_300, z_500, z_600, z_20000, z_m13, z_m11, z_7, z_11, z_13, z_15, z_18, z_40, z_80, z_100, z_120, z_150, z_179, z_210, z_999, z_104021, z_268435455, z_3070017, z_nL, zadd, zsub, zmul, zneg, zap]
      refine ⟨zin hq.1.1 hq.1.2 (by decide), ?_⟩
      try simp only [zcl hq.1.1 (Int.lt_trans hq.1.2 (by decide))]
      have hq := hq.2
      try simp only [z_m1, z_0, z_1, z_2, z_3, z_4, z_5, z_6, z_8, z_9, z_10, z_12, z_16, z_30, z_31, z_99, z_300, z_500, z_600, z_20000, z_m13, z_m11, z_7, z_11, z_13, z_15, z_18, z_40, z_80, z_100, z_120, z_150, z_179, z_210, z_999, z_104021, z_268435455, z_3070017, z_nL, zadd, zsub, zmul, zneg, zap]
      refine ⟨zin hq.1.1 hq.1.2 (by decide), ?_⟩
      try simp only [zcl hq.1.1 (Int.lt_trans hq.1.2 (by decide))]
      have hq := hq.2
      try simp only [z_m1, z_0, z_1, z_2, z_3, z_4, z_5, z_6, z_8, z_9, z_10, z_12, z_16, z_30, z_31, z_99, z_300, z_500, z_600, z_20000, z_m13, z_m11, z_7, z_11, z_13, z_15, z_18, z_40, z_80, z_100, z_120, z_150, z_179, z_210, z_999, z_104021, z_268435455, z_3070017, z_nL, zadd, zsub, zmul, zneg, zap]
      refine ⟨zin hq.1.1 hq.1.2 (by decide), ?_⟩
      try simp only [zcl hq.1.1 (Int.lt_trans hq.1.2 (by decide))]
      have hq := hq.2
      try simp only [z_m1, z_0, z_1, z_2, z_3, z_4, z_5, z_6, z_8, z_9, z_10, z_12, z_16, z_30, z_31, z_99, z_300, z_500, z_600, z_20000, z_m13, z_m11, z_7, z_11, z_13, z_15, z_18, z_40, z_80, z_100, z_120, z_150, z_179, z_210, z_999, z_104021, z_268435455, z_3070017, z_nL, zadd, zsub, zmul, zneg, zap]
      refine ⟨zin hq.1.1 hq.1.2 (by decide), ?_⟩
      try simp only [zcl hq.1.1 (Int.lt_trans hq.1.2 (by decide))]
      have hq := hq.2
      try simp only [z_m1, z_0, z_1, z_2, z_3, z_4, z_5, z_6, z_8, z_9, z_10, z_12, z_16, z_30, z_31, z_99, z_300, z_500, z_600, z_20000, z_m13, z_m11, z_7, z_11, z_13, z_15, z_18, z_40, z_80, z_100, z_120, z_150, z_179, z_210, z_999, z_104021, z_268435455, z_3070017, z_nL, zadd, zsub, zmul, zneg, zap]
      refine ⟨hq.1, tn_X4_addTitle hh hs hr (ha 5 ((3 : Int) * x11).toNat) (ha 5 (((3 : Int) * x11) + (1 : Int)).toNat) (ha 5 (((3 : Int) * x11) + (2 : Int)).toNat) (ha 4 ((4 : Int) * x11).toNat) (ha 4 (((4 : Int) * x11) + (1 : Int)).toNat) (ha 4 (((4 : Int) * x11) + (2 : Int)).toNat) (ha 4 (((4 : Int) * x11) + (3 : Int)).toNat) _ _ (fun r35 hh36 hs37 hr38 hq => ?_) hq.2⟩
      try simp only [z_m1, z_0, z_1, z_2, z_3, z_4, z_5, z_6, z_8, z_9, z_10, z_12, z_16, z_30, z_31, z_99, z_300, z_500, z_600, z_20000, z_m13, z_m11, z_7, z_11, z_13, z_15, z_18, z_40, z_80, z_100, z_120, z_150, z_179, z_210, z_999, z_104021, z_268435455, z_3070017, z_nL, zadd, zsub, zmul, zneg, zap]
      have rx := hq.1
      have hq := hq.2
      have ry := hq.1
      have hq := hq.2
      refine ⟨fun c => ?_, fun c => ?_⟩
      · have hq := hq.1 (fun h => c ((z_eq rx ry).mpr h))
        exact hq
      · have hq := hq.2 ((z_eq rx ry).mp c)
        obtain ⟨hkb, r39, hr39, hq⟩ := hq
        refine ⟨hkb, zI r39, tn_X4_depth hh36 hs37 hr38 x11 r39 hr39, ?_⟩
        try simp only [z_m1, z_0, z_1, z_2, z_3, z_4, z_5, z_6, z_8, z_9, z_10, z_12, z_16, z_30, z_31, z_99, z_300, z_500, z_600, z_20000, z_m13, z_m11, z_7, z_11, z_13, z_15, z_18, z_40, z_80, z_100, z_120, z_150, z_179, z_210, z_999, z_104021, z_268435455, z_3070017, z_nL, zadd, zsub, zmul, zneg, zap]
        have rx := hq.1
        have hq := hq.2
        refine ⟨fun c => ?_, fun c => ?_⟩
        · have hq := hq.1 (fun h => c ((z_eq rx ⟨by decide, by decide⟩).mpr h))
          exact hq
        · have hq := hq.2 ((z_eq rx ⟨by decide, by decide⟩).mp c)
          exact hq
    · have hq := hq.2 (fun h => c ((z_le ⟨by decide, by decide⟩ rx).mpr h))
      intro w9 e9
      rw [zshr hq.1 hq.2.1] at e9
      subst e9
      have zb := zshr_b (y := ((8 : Int) + ((3 : Int) * x23))) hq.1.1
      have hq := hq.2.2 _ zb.1 zb.2
      generalize ishr x17 ((8 : Int) + ((3 : Int) * x23)) = z40 at hq ⊢
      try simp only [z_m1, z_0, z_1, z_2, z_3, z_4, z_5, z_6, z_8, z_9, z_10, z_12, z_16, z_30, z_31, z_99, z_300, z_500, z_600, z_20000, z_m13, z_m11, z_7, z_11, z_13, z_15, z_18, z_40, z_80, z_100, z_120, z_150, z_179, z_210, z_999, z_104021, z_268435455, z_3070017, z_nL, zadd, zsub, zmul, zneg, zap]
      intro w9 e9
      have zb : 0 ≤ w9.toInt ∧ w9.toInt ≤ 7 := by rw [e9]; exact zand_b _ 7 (by decide)
      clear e9
      rw [← zI_of w9]
      have hq := hq w9.toInt zb.1 zb.2
      generalize w9.toInt = z41 at hq ⊢
      try simp only [z_m1, z_0, z_1, z_2, z_3, z_4, z_5, z_6, z_8, z_9, z_10, z_12, z_16, z_30, z_31, z_99, z_300, z_500, z_600, z_20000, z_m13, z_m11, z_7, z_11, z_13, z_15, z_18, z_40, z_80, z_100, z_120, z_150, z_179, z_210, z_999, z_104021, z_268435455, z_3070017, z_nL, zadd, zsub, zmul, zneg, zap]
      refine ⟨fun c0 => absurd ((z_eq (by have := hq.2.1; unfold inR; omega) ⟨by decide, by decide⟩).mp c0) (by have := hq.2.1; omega), ?_⟩
      intro w9 e9
      rw [zrem hq.1 hq.2.1] at e9
      subst e9
      have zb := zrem_b hq.1.1 hq.2.1.1
      have hq := hq.2.2 _ zb.1 zb.2.1 zb.2.2
      generalize z41 % (6 : Int) = z42 at hq ⊢
      try simp only [z_m1, z_0, z_1, z_2, z_3, z_4, z_5, z_6, z_8, z_9, z_10, z_12, z_16, z_30, z_31, z_99, z_300, z_500, z_600, z_20000, z_m13, z_m11, z_7, z_11, z_13, z_15, z_18, z_40, z_80, z_100, z_120, z_150, z_179, z_210, z_999, z_104021, z_268435455, z_3070017, z_nL, zadd, zsub, zmul, zneg, zap]
      refine ⟨zin hq.1.1 hq.1.2 (by decide), ?_⟩
      try simp only [zcl hq.1.1 (Int.lt_trans hq.1.2 (by decide))]
      have hq := hq.2
      intro g9 eg9
      rw [zset] at eg9
      subst eg9
      have hq := hq _ rfl
      generalize iset ha 4 (((4 : Int) * x11) + x23).toNat z42 = h43 at hq ⊢
      try simp only [z_m1, z_0, z_1, z_2, z_3, z_4, z_5, z_6, z_8, z_9, z_10, z_12, z_16, z_30, z_31, z_99, z_300, z_500, z_600, z_20000, z_m13, z_m11, z_7, z_11, z_13, z_15, z_18, z_40, z_80, z_100, z_120, z_150, z_179, z_210, z_999, z_104021, z_268435455, z_3070017, z_nL, zadd, zsub, zmul, zneg, zap]
      exact hq)
  have hq := hq (by
    intro k hh hs hr ha x9 x10 x11 x12 x13 x14 x15 x17 x18 x19 x20 x21 x22 hq
    refine k549 k (zS hh) (zS hs) (zS hr) (zS ha) (zI x9) (zI x10) (zI x11) (zI x12) (zI x13) (zI x14) (zI x15) (zI x17) (zI x18) (zI x19) (zI x20) (zI x21) (zI x22) ?_
    try simp only [z_m1, z_0, z_1, z_2, z_3, z_4, z_5, z_6, z_8, z_9, z_10, z_12, z_16, z_30, z_31, z_99, z_300, z_500, z_600, z_20000, z_m13, z_m11, z_7, z_11, z_13, z_15, z_18, z_40, z_80, z_100, z_120, z_150, z_179, z_210, z_999, z_104021, z_268435455, z_3070017, z_nL, zadd, zsub, zmul, zneg, zap]
    have rx := hq.1
    have hq := hq.2
    refine ⟨fun c => ?_, fun c => ?_⟩
    · have hq := hq.1 (fun h => c ((z_eq rx ⟨by decide, by decide⟩).mpr h))
      exact hq
    · have hq := hq.2 ((z_eq rx ⟨by decide, by decide⟩).mp c)
      have rx := hq.1
      have hq := hq.2
      refine ⟨fun c => ?_, fun c => ?_⟩
      · have hq := hq.1 ((z_le ⟨by decide, by decide⟩ rx).mp c)
        exact hq
      · have hq := hq.2 (fun h => c ((z_le ⟨by decide, by decide⟩ rx).mpr h))
        refine ⟨zin hq.1.1 hq.1.2 (by decide), ?_⟩
        try simp only [zcl hq.1.1 (Int.lt_trans hq.1.2 (by decide))]
        have hq := hq.2
        intro g9 eg9
        rw [zset] at eg9
        subst eg9
        have hq := hq _ rfl
        generalize iset ha 3 x12.toNat x20 = h28 at hq ⊢
        try simp only [z_m1, z_0, z_1, z_2, z_3, z_4, z_5, z_6, z_8, z_9, z_10, z_12, z_16, z_30, z_31, z_99, z_300, z_500, z_600, z_20000, z_m13, z_m11, z_7, z_11, z_13, z_15, z_18, z_40, z_80, z_100, z_120, z_150, z_179, z_210, z_999, z_104021, z_268435455, z_3070017, z_nL, zadd, zsub, zmul, zneg, zap]
        refine ⟨hq.1, tn_X4_addCopy hh hs hr x20 _ _ (fun r29 hh30 hs31 hr32 hq => ?_) hq.2⟩
        try simp only [z_m1, z_0, z_1, z_2, z_3, z_4, z_5, z_6, z_8, z_9, z_10, z_12, z_16, z_30, z_31, z_99, z_300, z_500, z_600, z_20000, z_m13, z_m11, z_7, z_11, z_13, z_15, z_18, z_40, z_80, z_100, z_120, z_150, z_179, z_210, z_999, z_104021, z_268435455, z_3070017, z_nL, zadd, zsub, zmul, zneg, zap]
        have rx := hq.1
        have hq := hq.2
        have ry := hq.1
        have hq := hq.2
        refine ⟨fun c => ?_, fun c => ?_⟩
        · have hq := hq.1 (fun h => c ((z_eq rx ry).mpr h))
          exact hq
        · have hq := hq.2 ((z_eq rx ry).mp c)
          obtain ⟨hkb, r33, hr33, hq⟩ := hq
          refine ⟨hkb, zI r33, tn_X4_stateOf hh30 hs31 hr32 x12 r33 hr33, ?_⟩
          try simp only [z_m1, z_0, z_1, z_2, z_3, z_4, z_5, z_6, z_8, z_9, z_10, z_12, z_16, z_30, z_31, z_99, z_300, z_500, z_600, z_20000, z_m13, z_m11, z_7, z_11, z_13, z_15, z_18, z_40, z_80, z_100, z_120, z_150, z_179, z_210, z_999, z_104021, z_268435455, z_3070017, z_nL, zadd, zsub, zmul, zneg, zap]
          have rx := hq.1
          have hq := hq.2
          refine ⟨fun c => ?_, fun c => ?_⟩
          · have hq := hq.1 (fun h => c ((z_eq rx ⟨by decide, by decide⟩).mpr h))
            exact hq
          · have hq := hq.2 ((z_eq rx ⟨by decide, by decide⟩).mp c)
            obtain ⟨hkb, r34, hr34, hq⟩ := hq
            refine ⟨hkb, zI r34, tn_X4_lenders hh30 hs31 hr32 x12 r34 hr34, ?_⟩
            try simp only [z_m1, z_0, z_1, z_2, z_3, z_4, z_5, z_6, z_8, z_9, z_10, z_12, z_16, z_30, z_31, z_99, z_300, z_500, z_600, z_20000, z_m13, z_m11, z_7, z_11, z_13, z_15, z_18, z_40, z_80, z_100, z_120, z_150, z_179, z_210, z_999, z_104021, z_268435455, z_3070017, z_nL, zadd, zsub, zmul, zneg, zap]
            have rx := hq.1
            have hq := hq.2
            refine ⟨fun c => ?_, fun c => ?_⟩
            · have hq := hq.1 (fun h => c ((z_eq rx ⟨by decide, by decide⟩).mpr h))
              exact hq
            · have hq := hq.2 ((z_eq rx ⟨by decide, by decide⟩).mp c)
              exact hq)
  have hq := hq (by
    intro k hh hs hr ha x9 x10 x11 x12 x13 x14 x15 x17 x18 x19 x20 x21 x22 hq
    refine k611 k (zS hh) (zS hs) (zS hr) (zS ha) (zI x9) (zI x10) (zI x11) (zI x12) (zI x13) (zI x14) (zI x15) (zI x17) (zI x18) (zI x19) (zI x20) (zI x21) (zI x22) ?_
    try simp only [z_m1, z_0, z_1, z_2, z_3, z_4, z_5, z_6, z_8, z_9, z_10, z_12, z_16, z_30, z_31, z_99, z_300, z_500, z_600, z_20000, z_m13, z_m11, z_7, z_11, z_13, z_15, z_18, z_40, z_80, z_100, z_120, z_150, z_179, z_210, z_999, z_104021, z_268435455, z_3070017, z_nL, zadd, zsub, zmul, zneg, zap]
    have rx := hq.1
    have hq := hq.2
    refine ⟨fun c => ?_, fun c => ?_⟩
    · have hq := hq.1 ((z_le ⟨by decide, by decide⟩ rx).mp c)
      exact hq
    · have hq := hq.2 (fun h => c ((z_le ⟨by decide, by decide⟩ rx).mpr h))
      refine ⟨zin hq.1.1 hq.1.2 (by decide), ?_⟩
      try simp only [zcl hq.1.1 (Int.lt_trans hq.1.2 (by decide))]
      have hq := hq.2
      try simp only [z_m1, z_0, z_1, z_2, z_3, z_4, z_5, z_6, z_8, z_9, z_10, z_12, z_16, z_30, z_31, z_99, z_300, z_500, z_600, z_20000, z_m13, z_m11, z_7, z_11, z_13, z_15, z_18, z_40, z_80, z_100, z_120, z_150, z_179, z_210, z_999, z_104021, z_268435455, z_3070017, z_nL, zadd, zsub, zmul, zneg, zap]
      have rx := hq.1
      have hq := hq.2
      refine ⟨fun c => ?_, fun c => ?_⟩
      · have hq := hq.1 ((z_le ⟨by decide, by decide⟩ rx).mp c)
        exact hq
      · have hq := hq.2 (fun h => c ((z_le ⟨by decide, by decide⟩ rx).mpr h))
        refine ⟨zin hq.1.1 hq.1.2 (by decide), ?_⟩
        try simp only [zcl hq.1.1 (Int.lt_trans hq.1.2 (by decide))]
        have hq := hq.2
        try simp only [z_m1, z_0, z_1, z_2, z_3, z_4, z_5, z_6, z_8, z_9, z_10, z_12, z_16, z_30, z_31, z_99, z_300, z_500, z_600, z_20000, z_m13, z_m11, z_7, z_11, z_13, z_15, z_18, z_40, z_80, z_100, z_120, z_150, z_179, z_210, z_999, z_104021, z_268435455, z_3070017, z_nL, zadd, zsub, zmul, zneg, zap]
        have rx := hq.1
        have hq := hq.2
        refine ⟨fun c => ?_, fun c => ?_⟩
        · have hq := hq.1 ((z_eq rx ⟨by decide, by decide⟩).mp c)
          exact hq
        · have hq := hq.2 (fun h => c ((z_eq rx ⟨by decide, by decide⟩).mpr h))
          intro w9 e9
          rw [zshr hq.1 hq.2.1] at e9
          subst e9
          have zb := zshr_b (y := (3 : Int)) hq.1.1
          have hq := hq.2.2 _ zb.1 zb.2
          generalize ishr x17 (3 : Int) = z49 at hq ⊢
          try simp only [z_m1, z_0, z_1, z_2, z_3, z_4, z_5, z_6, z_8, z_9, z_10, z_12, z_16, z_30, z_31, z_99, z_300, z_500, z_600, z_20000, z_m13, z_m11, z_7, z_11, z_13, z_15, z_18, z_40, z_80, z_100, z_120, z_150, z_179, z_210, z_999, z_104021, z_268435455, z_3070017, z_nL, zadd, zsub, zmul, zneg, zap]
          intro w9 e9
          have zb : 0 ≤ w9.toInt ∧ w9.toInt ≤ 3 := by rw [e9]; exact zand_b _ 3 (by decide)
          clear e9
          rw [← zI_of w9]
          have hq := hq w9.toInt zb.1 zb.2
          generalize w9.toInt = z50 at hq ⊢
          try simp only [z_m1, z_0, z_1, z_2, z_3, z_4, z_5, z_6, z_8, z_9, z_10, z_12, z_16, z_30, z_31, z_99, z_300, z_500, z_600, z_20000, z_m13, z_m11, z_7, z_11, z_13, z_15, z_18, z_40, z_80, z_100, z_120, z_150, z_179, z_210, z_999, z_104021, z_268435455, z_3070017, z_nL, zadd, zsub, zmul, zneg, zap]
          have rx := hq.1
          have hq := hq.2
          refine ⟨fun c => ?_, fun c => ?_⟩
          · have hq := hq.1 (fun h => c ((z_eq rx ⟨by decide, by decide⟩).mpr h))
            intro w9 e9
            rw [zshr hq.1 hq.2.1] at e9
            subst e9
            have zb := zshr_b (y := (5 : Int)) hq.1.1
            have hq := hq.2.2 _ zb.1 zb.2
            generalize ishr x17 (5 : Int) = z51 at hq ⊢
            try simp only [z_m1, z_0, z_1, z_2, z_3, z_4, z_5, z_6, z_8, z_9, z_10, z_12, z_16, z_30, z_31, z_99, z_300, z_500, z_600, z_20000, z_m13, z_m11, z_7, z_11, z_13, z_15, z_18, z_40, z_80, z_100, z_120, z_150, z_179, z_210, z_999, z_104021, z_268435455, z_3070017, z_nL, zadd, zsub, zmul, zneg, zap]
            refine ⟨zin hq.1.1 hq.1.2 (by decide), ?_⟩
            try simp only [zcl hq.1.1 (Int.lt_trans hq.1.2 (by decide))]
            have hq := hq.2
            try simp only [z_m1, z_0, z_1, z_2, z_3, z_4, z_5, z_6, z_8, z_9, z_10, z_12, z_16, z_30, z_31, z_99, z_300, z_500, z_600, z_20000, z_m13, z_m11, z_7, z_11, z_13, z_15, z_18, z_40, z_80, z_100, z_120, z_150, z_179, z_210, z_999, z_104021, z_268435455, z_3070017, z_nL, zadd, zsub, zmul, zneg, zap]
            refine ⟨fun c0 => absurd ((z_eq (by have := hq.2.1; unfold inR; omega) ⟨by decide, by decide⟩).mp c0) (by have := hq.2.1; omega), ?_⟩
            intro w9 e9
            rw [zrem hq.1 hq.2.1] at e9
            subst e9
            have zb := zrem_b hq.1.1 hq.2.1.1
            have hq := hq.2.2 _ zb.1 zb.2.1 zb.2.2
            generalize z51 % (ha 6 x20.toNat) = z52 at hq ⊢
            try simp only [z_m1, z_0, z_1, z_2, z_3, z_4, z_5, z_6, z_8, z_9, z_10, z_12, z_16, z_30, z_31, z_99, z_300, z_500, z_600, z_20000, z_m13, z_m11, z_7, z_11, z_13, z_15, z_18, z_40, z_80, z_100, z_120, z_150, z_179, z_210, z_999, z_104021, z_268435455, z_3070017, z_nL, zadd, zsub, zmul, zneg, zap]
            exact hq
          · have hq := hq.2 ((z_eq rx ⟨by decide, by decide⟩).mp c)
            exact hq)
  have hq := hq (by
    intro k hh hs hr ha x9 x10 x11 x12 x14 x15 x17 x20 hq
    refine k644 k (zS hh) (zS hs) (zS hr) (zS ha) (zI x9) (zI x10) (zI x11) (zI x12) (zI x14) (zI x15) (zI x17) (zI x20) ?_
    try simp only [z_m1, z_0, z_1, z_2, z_3, z_4, z_5, z_6, z_8, z_9, z_10, z_12, z_16, z_30, z_31, z_99, z_300, z_500, z_600, z_20000, z_m13, z_m11, z_7, z_11, z_13, z_15, z_18, z_40, z_80, z_100, z_120, z_150, z_179, z_210, z_999, z_104021, z_268435455, z_3070017, z_nL, zadd, zsub, zmul, zneg, zap]
    exact hq)
  have hq := hq (by
    intro k hh hs hr ha x9 x10 x11 x12 x14 x15 x17 x20 t0 hq
    refine k658 k (zS hh) (zS hs) (zS hr) (zS ha) (zI x9) (zI x10) (zI x11) (zI x12) (zI x14) (zI x15) (zI x17) (zI x20) (zI t0) ?_
    try simp only [z_m1, z_0, z_1, z_2, z_3, z_4, z_5, z_6, z_8, z_9, z_10, z_12, z_16, z_30, z_31, z_99, z_300, z_500, z_600, z_20000, z_m13, z_m11, z_7, z_11, z_13, z_15, z_18, z_40, z_80, z_100, z_120, z_150, z_179, z_210, z_999, z_104021, z_268435455, z_3070017, z_nL, zadd, zsub, zmul, zneg, zap]
    obtain ⟨hkb, r57, hr57, hq⟩ := hq
    refine ⟨hkb, zI r57, tn_X4_depth hh hs hr x20 r57 hr57, ?_⟩
    try simp only [z_m1, z_0, z_1, z_2, z_3, z_4, z_5, z_6, z_8, z_9, z_10, z_12, z_16, z_30, z_31, z_99, z_300, z_500, z_600, z_20000, z_m13, z_m11, z_7, z_11, z_13, z_15, z_18, z_40, z_80, z_100, z_120, z_150, z_179, z_210, z_999, z_104021, z_268435455, z_3070017, z_nL, zadd, zsub, zmul, zneg, zap]
    intro w9 e9
    rw [zshr hq.1 hq.2.1] at e9
    subst e9
    have zb := zshr_b (y := (9 : Int)) hq.1.1
    have hq := hq.2.2 _ zb.1 zb.2
    generalize ishr x17 (9 : Int) = z58 at hq ⊢
    try simp only [z_m1, z_0, z_1, z_2, z_3, z_4, z_5, z_6, z_8, z_9, z_10, z_12, z_16, z_30, z_31, z_99, z_300, z_500, z_600, z_20000, z_m13, z_m11, z_7, z_11, z_13, z_15, z_18, z_40, z_80, z_100, z_120, z_150, z_179, z_210, z_999, z_104021, z_268435455, z_3070017, z_nL, zadd, zsub, zmul, zneg, zap]
    intro w9 e9
    have zb : 0 ≤ w9.toInt ∧ w9.toInt ≤ 3 := by rw [e9]; exact zand_b _ 3 (by decide)
    clear e9
    rw [← zI_of w9]
    have hq := hq w9.toInt zb.1 zb.2
    generalize w9.toInt = z59 at hq ⊢
    try simp only [z_m1, z_0, z_1, z_2, z_3, z_4, z_5, z_6, z_8, z_9, z_10, z_12, z_16, z_30, z_31, z_99, z_300, z_500, z_600, z_20000, z_m13, z_m11, z_7, z_11, z_13, z_15, z_18, z_40, z_80, z_100, z_120, z_150, z_179, z_210, z_999, z_104021, z_268435455, z_3070017, z_nL, zadd, zsub, zmul, zneg, zap]
    intro w9 e9
    rw [zshr hq.1 hq.2.1] at e9
    subst e9
    have zb := zshr_b (y := (11 : Int)) hq.1.1
    have hq := hq.2.2 _ zb.1 zb.2
    generalize ishr x17 (11 : Int) = z60 at hq ⊢
    try simp only [z_m1, z_0, z_1, z_2, z_3, z_4, z_5, z_6, z_8, z_9, z_10, z_12, z_16, z_30, z_31, z_99, z_300, z_500, z_600, z_20000, z_m13, z_m11, z_7, z_11, z_13, z_15, z_18, z_40, z_80, z_100, z_120, z_150, z_179, z_210, z_999, z_104021, z_268435455, z_3070017, z_nL, zadd, zsub, zmul, zneg, zap]
    refine ⟨fun c0 => absurd ((z_eq (by have := hq.2.1; unfold inR; omega) ⟨by decide, by decide⟩).mp c0) (by have := hq.2.1; omega), ?_⟩
    intro w9 e9
    rw [zrem hq.1 hq.2.1] at e9
    subst e9
    have zb := zrem_b hq.1.1 hq.2.1.1
    have hq := hq.2.2 _ zb.1 zb.2.1 zb.2.2
    generalize z60 % (40 : Int) = z61 at hq ⊢
    try simp only [z_m1, z_0, z_1, z_2, z_3, z_4, z_5, z_6, z_8, z_9, z_10, z_12, z_16, z_30, z_31, z_99, z_300, z_500, z_600, z_20000, z_m13, z_m11, z_7, z_11, z_13, z_15, z_18, z_40, z_80, z_100, z_120, z_150, z_179, z_210, z_999, z_104021, z_268435455, z_3070017, z_nL, zadd, zsub, zmul, zneg, zap]
    intro w9 e9
    rw [zshr hq.1 hq.2.1] at e9
    subst e9
    have zb := zshr_b (y := (18 : Int)) hq.1.1
    have hq := hq.2.2 _ zb.1 zb.2
    generalize ishr x17 (18 : Int) = z62 at hq ⊢
    try simp only [z_m1, z_0, z_1, z_2, z_3, z_4, z_5, z_6, z_8, z_9, z_10, z_12, z_16, z_30, z_31, z_99, z_300, z_500, z_600, z_20000, z_m13, z_m11, z_7, z_11, z_13, z_15, z_18, z_40, z_80, z_100, z_120, z_150, z_179, z_210, z_999, z_104021, z_268435455, z_3070017, z_nL, zadd, zsub, zmul, zneg, zap]
    refine ⟨fun c0 => absurd ((z_eq (by have := hq.2.1; unfold inR; omega) ⟨by decide, by decide⟩).mp c0) (by have := hq.2.1; omega), ?_⟩
    intro w9 e9
    rw [zrem hq.1 hq.2.1] at e9
    subst e9
    have zb := zrem_b hq.1.1 hq.2.1.1
    have hq := hq.2.2 _ zb.1 zb.2.1 zb.2.2
    generalize z62 % (100 : Int) = z63 at hq ⊢
    try simp only [z_m1, z_0, z_1, z_2, z_3, z_4, z_5, z_6, z_8, z_9, z_10, z_12, z_16, z_30, z_31, z_99, z_300, z_500, z_600, z_20000, z_m13, z_m11, z_7, z_11, z_13, z_15, z_18, z_40, z_80, z_100, z_120, z_150, z_179, z_210, z_999, z_104021, z_268435455, z_3070017, z_nL, zadd, zsub, zmul, zneg, zap]
    refine ⟨hq.1, tn_X4_addRule hh hs hr x20 t0 z59 ((1 : Int) + z61) z63 _ _ (fun r64 hh65 hs66 hr67 hq => ?_) hq.2⟩
    try simp only [z_m1, z_0, z_1, z_2, z_3, z_4, z_5, z_6, z_8, z_9, z_10, z_12, z_16, z_30, z_31, z_99, z_300, z_500, z_600, z_20000, z_m13, z_m11, z_7, z_11, z_13, z_15, z_18, z_40, z_80, z_100, z_120, z_150, z_179, z_210, z_999, z_104021, z_268435455, z_3070017, z_nL, zadd, zsub, zmul, zneg, zap]
    refine ⟨zin hq.1.1 hq.1.2 (by decide), ?_⟩
    try simp only [zcl hq.1.1 (Int.lt_trans hq.1.2 (by decide))]
    have hq := hq.2
    try simp only [z_m1, z_0, z_1, z_2, z_3, z_4, z_5, z_6, z_8, z_9, z_10, z_12, z_16, z_30, z_31, z_99, z_300, z_500, z_600, z_20000, z_m13, z_m11, z_7, z_11, z_13, z_15, z_18, z_40, z_80, z_100, z_120, z_150, z_179, z_210, z_999, z_104021, z_268435455, z_3070017, z_nL, zadd, zsub, zmul, zneg, zap]
    have rx := hq.1
    have hq := hq.2
    have ry := hq.1
    have hq := hq.2
    refine ⟨fun c => ?_, fun c => ?_⟩
    · have hq := hq.1 (fun h => c ((z_eq rx ry).mpr h))
      exact hq
    · have hq := hq.2 ((z_eq rx ry).mp c)
      obtain ⟨hkb, r68, hr68, hq⟩ := hq
      refine ⟨hkb, zI r68, tn_X4_depth hh65 hs66 hr67 x20 r68 hr68, ?_⟩
      try simp only [z_m1, z_0, z_1, z_2, z_3, z_4, z_5, z_6, z_8, z_9, z_10, z_12, z_16, z_30, z_31, z_99, z_300, z_500, z_600, z_20000, z_m13, z_m11, z_7, z_11, z_13, z_15, z_18, z_40, z_80, z_100, z_120, z_150, z_179, z_210, z_999, z_104021, z_268435455, z_3070017, z_nL, zadd, zsub, zmul, zneg, zap]
      have rx := hq.1
      have hq := hq.2
      have ry := hq.1
      have hq := hq.2
      refine ⟨fun c => ?_, fun c => ?_⟩
      · have hq := hq.1 ((z_lt rx ry).mp c)
        exact hq
      · have hq := hq.2 (fun h => c ((z_lt rx ry).mpr h))
        obtain ⟨hkb, r69, hr69, hq⟩ := hq
        refine ⟨hkb, zI r69, tn_X4_depth hh65 hs66 hr67 x20 r69 hr69, ?_⟩
        try simp only [z_m1, z_0, z_1, z_2, z_3, z_4, z_5, z_6, z_8, z_9, z_10, z_12, z_16, z_30, z_31, z_99, z_300, z_500, z_600, z_20000, z_m13, z_m11, z_7, z_11, z_13, z_15, z_18, z_40, z_80, z_100, z_120, z_150, z_179, z_210, z_999, z_104021, z_268435455, z_3070017, z_nL, zadd, zsub, zmul, zneg, zap]
        have rx := hq.1
        have hq := hq.2
        have ry := hq.1
        have hq := hq.2
        refine ⟨fun c => ?_, fun c => ?_⟩
        · have hq := hq.1 ((z_lt ry rx).mp c)
          exact hq
        · have hq := hq.2 (fun h => c ((z_lt ry rx).mpr h))
          obtain ⟨hkb, r70, hr70, hq⟩ := hq
          refine ⟨hkb, zI r70, tn_X4_depth hh65 hs66 hr67 x20 r70 hr70, ?_⟩
          try simp only [z_m1, z_0, z_1, z_2, z_3, z_4, z_5, z_6, z_8, z_9, z_10, z_12, z_16, z_30, z_31, z_99, z_300, z_500, z_600, z_20000, z_m13, z_m11, z_7, z_11, z_13, z_15, z_18, z_40, z_80, z_100, z_120, z_150, z_179, z_210, z_999, z_104021, z_268435455, z_3070017, z_nL, zadd, zsub, zmul, zneg, zap]
          have rx := hq.1
          have hq := hq.2
          refine ⟨fun c => ?_, fun c => ?_⟩
          · have hq := hq.1 ((z_le ⟨by decide, by decide⟩ rx).mp c)
            exact hq
          · have hq := hq.2 (fun h => c ((z_le ⟨by decide, by decide⟩ rx).mpr h))
            exact hq)
  have hq := hq (by
    intro k hh hs hr ha x9 x10 x11 x12 x14 x15 x17 x20 t0 t1 hq
    refine k749 k (zS hh) (zS hs) (zS hr) (zS ha) (zI x9) (zI x10) (zI x11) (zI x12) (zI x14) (zI x15) (zI x17) (zI x20) (zI t0) (zI t1) ?_
    try simp only [z_m1, z_0, z_1, z_2, z_3, z_4, z_5, z_6, z_8, z_9, z_10, z_12, z_16, z_30, z_31, z_99, z_300, z_500, z_600, z_20000, z_m13, z_m11, z_7, z_11, z_13, z_15, z_18, z_40, z_80, z_100, z_120, z_150, z_179, z_210, z_999, z_104021, z_268435455, z_3070017, z_nL, zadd, zsub, zmul, zneg, zap]
    have rx := hq.1
    have hq := hq.2
    have ry := hq.1
    have hq := hq.2
    refine ⟨fun c => ?_, fun c => ?_⟩
    · have hq := hq.1 ((z_lt rx ry).mp c)
      exact hq
    · have hq := hq.2 (fun h => c ((z_lt rx ry).mpr h))
      exact hq)
  have hq := hq (by
    intro k hh hs hr ha x9 x10 x11 x12 x14 x15 x17 x20 hq
    refine k756 k (zS hh) (zS hs) (zS hr) (zS ha) (zI x9) (zI x10) (zI x11) (zI x12) (zI x14) (zI x15) (zI x17) (zI x20) ?_
    try simp only [z_m1, z_0, z_1, z_2, z_3, z_4, z_5, z_6, z_8, z_9, z_10, z_12, z_16, z_30, z_31, z_99, z_300, z_500, z_600, z_20000, z_m13, z_m11, z_7, z_11, z_13, z_15, z_18, z_40, z_80, z_100, z_120, z_150, z_179, z_210, z_999, z_104021, z_268435455, z_3070017, z_nL, zadd, zsub, zmul, zneg, zap]
    exact hq)
  have hq := hq (by
    intro k hh hs hr ha x9 x10 x11 x12 x14 x15 x17 x20 t0 hq
    refine k757 k (zS hh) (zS hs) (zS hr) (zS ha) (zI x9) (zI x10) (zI x11) (zI x12) (zI x14) (zI x15) (zI x17) (zI x20) (zI t0) ?_
    try simp only [z_m1, z_0, z_1, z_2, z_3, z_4, z_5, z_6, z_8, z_9, z_10, z_12, z_16, z_30, z_31, z_99, z_300, z_500, z_600, z_20000, z_m13, z_m11, z_7, z_11, z_13, z_15, z_18, z_40, z_80, z_100, z_120, z_150, z_179, z_210, z_999, z_104021, z_268435455, z_3070017, z_nL, zadd, zsub, zmul, zneg, zap]
    refine ⟨zin hq.1.1 hq.1.2 (by decide), ?_⟩
    try simp only [zcl hq.1.1 (Int.lt_trans hq.1.2 (by decide))]
    have hq := hq.2
    try simp only [z_m1, z_0, z_1, z_2, z_3, z_4, z_5, z_6, z_8, z_9, z_10, z_12, z_16, z_30, z_31, z_99, z_300, z_500, z_600, z_20000, z_m13, z_m11, z_7, z_11, z_13, z_15, z_18, z_40, z_80, z_100, z_120, z_150, z_179, z_210, z_999, z_104021, z_268435455, z_3070017, z_nL, zadd, zsub, zmul, zneg, zap]
    refine ⟨zin hq.1.1 hq.1.2 (by decide), ?_⟩
    try simp only [zcl hq.1.1 (Int.lt_trans hq.1.2 (by decide))]
    have hq := hq.2
    intro g9 eg9
    rw [zset] at eg9
    subst eg9
    have hq := hq _ rfl
    generalize iset ha 6 x20.toNat ((ha 6 x20.toNat) + (1 : Int)) = h113 at hq ⊢
    try simp only [z_m1, z_0, z_1, z_2, z_3, z_4, z_5, z_6, z_8, z_9, z_10, z_12, z_16, z_30, z_31, z_99, z_300, z_500, z_600, z_20000, z_m13, z_m11, z_7, z_11, z_13, z_15, z_18, z_40, z_80, z_100, z_120, z_150, z_179, z_210, z_999, z_104021, z_268435455, z_3070017, z_nL, zadd, zsub, zmul, zneg, zap]
    exact hq)
  have hq := hq (by
    intro k hh hs hr ha x9 x10 x11 x12 x13 x14 x15 x17 x18 x19 x20 x21 x22 hq
    refine k771 k (zS hh) (zS hs) (zS hr) (zS ha) (zI x9) (zI x10) (zI x11) (zI x12) (zI x13) (zI x14) (zI x15) (zI x17) (zI x18) (zI x19) (zI x20) (zI x21) (zI x22) ?_
    try simp only [z_m1, z_0, z_1, z_2, z_3, z_4, z_5, z_6, z_8, z_9, z_10, z_12, z_16, z_30, z_31, z_99, z_300, z_500, z_600, z_20000, z_m13, z_m11, z_7, z_11, z_13, z_15, z_18, z_40, z_80, z_100, z_120, z_150, z_179, z_210, z_999, z_104021, z_268435455, z_3070017, z_nL, zadd, zsub, zmul, zneg, zap]
    have rx := hq.1
    have hq := hq.2
    refine ⟨fun c => ?_, fun c => ?_⟩
    · have hq := hq.1 ((z_le ⟨by decide, by decide⟩ rx).mp c)
      exact hq
    · have hq := hq.2 (fun h => c ((z_le ⟨by decide, by decide⟩ rx).mpr h))
      have rx := hq.1
      have hq := hq.2
      refine ⟨fun c => ?_, fun c => ?_⟩
      · have hq := hq.1 ((z_le ⟨by decide, by decide⟩ rx).mp c)
        exact hq
      · have hq := hq.2 (fun h => c ((z_le ⟨by decide, by decide⟩ rx).mpr h))
        intro w9 e9
        rw [zshr hq.1 hq.2.1] at e9
        subst e9
        have zb := zshr_b (y := (3 : Int)) hq.1.1
        have hq := hq.2.2 _ zb.1 zb.2
        generalize ishr x17 (3 : Int) = z55 at hq ⊢
        try simp only [z_m1, z_0, z_1, z_2, z_3, z_4, z_5, z_6, z_8, z_9, z_10, z_12, z_16, z_30, z_31, z_99, z_300, z_500, z_600, z_20000, z_m13, z_m11, z_7, z_11, z_13, z_15, z_18, z_40, z_80, z_100, z_120, z_150, z_179, z_210, z_999, z_104021, z_268435455, z_3070017, z_nL, zadd, zsub, zmul, zneg, zap]
        intro w9 e9
        have zb : 0 ≤ w9.toInt ∧ w9.toInt ≤ 1 := by rw [e9]; exact zand_b _ 1 (by decide)
        clear e9
        rw [← zI_of w9]
        have hq := hq w9.toInt zb.1 zb.2
        generalize w9.toInt = z56 at hq ⊢
        try simp only [z_m1, z_0, z_1, z_2, z_3, z_4, z_5, z_6, z_8, z_9, z_10, z_12, z_16, z_30, z_31, z_99, z_300, z_500, z_600, z_20000, z_m13, z_m11, z_7, z_11, z_13, z_15, z_18, z_40, z_80, z_100, z_120, z_150, z_179, z_210, z_999, z_104021, z_268435455, z_3070017, z_nL, zadd, zsub, zmul, zneg, zap]
        have rx := hq.1
        have hq := hq.2
        refine ⟨fun c => ?_, fun c => ?_⟩
        · have hq := hq.1 (fun h => c ((z_eq rx ⟨by decide, by decide⟩).mpr h))
          exact hq
        · have hq := hq.2 ((z_eq rx ⟨by decide, by decide⟩).mp c)
          exact hq)
  have hq := hq (by
    intro k hh hs hr ha x9 x10 x11 x12 x14 x15 x17 t0 t1 t2 t3 hq
    refine k806 k (zS hh) (zS hs) (zS hr) (zS ha) (zI x9) (zI x10) (zI x11) (zI x12) (zI x14) (zI x15) (zI x17) (zI t0) (zI t1) (zI t2) (zI t3) ?_
    try simp only [z_m1, z_0, z_1, z_2, z_3, z_4, z_5, z_6, z_8, z_9, z_10, z_12, z_16, z_30, z_31, z_99, z_300, z_500, z_600, z_20000, z_m13, z_m11, z_7, z_11, z_13, z_15, z_18, z_40, z_80, z_100, z_120, z_150, z_179, z_210, z_999, z_104021, z_268435455, z_3070017, z_nL, zadd, zsub, zmul, zneg, zap]
    refine ⟨fun c0 => absurd ((z_eq (by have := hq.2.1; unfold inR; omega) ⟨by decide, by decide⟩).mp c0) (by have := hq.2.1; omega), ?_⟩
    intro w9 e9
    rw [zrem hq.1 hq.2.1] at e9
    subst e9
    have zb := zrem_b hq.1.1 hq.2.1.1
    have hq := hq.2.2 _ zb.1 zb.2.1 zb.2.2
    generalize t1 % t0 = z88 at hq ⊢
    try simp only [z_m1, z_0, z_1, z_2, z_3, z_4, z_5, z_6, z_8, z_9, z_10, z_12, z_16, z_30, z_31, z_99, z_300, z_500, z_600, z_20000, z_m13, z_m11, z_7, z_11, z_13, z_15, z_18, z_40, z_80, z_100, z_120, z_150, z_179, z_210, z_999, z_104021, z_268435455, z_3070017, z_nL, zadd, zsub, zmul, zneg, zap]
    refine ⟨zin hq.1.1 hq.1.2 (by decide), ?_⟩
    try simp only [zcl hq.1.1 (Int.lt_trans hq.1.2 (by decide))]
    have hq := hq.2
    intro g9 eg9
    rw [zset] at eg9
    subst eg9
    have hq := hq _ rfl
    generalize iset ha 1 t3.toNat (t2 + z88) = h89 at hq ⊢
    try simp only [z_m1, z_0, z_1, z_2, z_3, z_4, z_5, z_6, z_8, z_9, z_10, z_12, z_16, z_30, z_31, z_99, z_300, z_500, z_600, z_20000, z_m13, z_m11, z_7, z_11, z_13, z_15, z_18, z_40, z_80, z_100, z_120, z_150, z_179, z_210, z_999, z_104021, z_268435455, z_3070017, z_nL, zadd, zsub, zmul, zneg, zap]
    refine ⟨zin hq.1.1 hq.1.2 (by decide), ?_⟩
    try simp only [zcl hq.1.1 (Int.lt_trans hq.1.2 (by decide))]
    have hq := hq.2
    try simp only [z_m1, z_0, z_1, z_2, z_3, z_4, z_5, z_6, z_8, z_9, z_10, z_12, z_16, z_30, z_31, z_99, z_300, z_500, z_600, z_20000, z_m13, z_m11, z_7, z_11, z_13, z_15, z_18, z_40, z_80, z_100, z_120, z_150, z_179, z_210, z_999, z_104021, z_268435455, z_3070017, z_nL, zadd, zsub, zmul, zneg, zap]
    obtain ⟨hkb, r90, hr90, hq⟩ := hq
    refine ⟨hkb, zI r90, tn_X4_waste hh hs hr (h89 1 x10.toNat) r90 hr90, ?_⟩
    try simp only [z_m1, z_0, z_1, z_2, z_3, z_4, z_5, z_6, z_8, z_9, z_10, z_12, z_16, z_30, z_31, z_99, z_300, z_500, z_600, z_20000, z_m13, z_m11, z_7, z_11, z_13, z_15, z_18, z_40, z_80, z_100, z_120, z_150, z_179, z_210, z_999, z_104021, z_268435455, z_3070017, z_nL, zadd, zsub, zmul, zneg, zap]
    obtain ⟨hkb, r91, hr91, hq⟩ := hq
    refine ⟨hkb, zI r91, t_X4_waiting hh hs hr r91 hr91, ?_⟩
    try simp only [z_m1, z_0, z_1, z_2, z_3, z_4, z_5, z_6, z_8, z_9, z_10, z_12, z_16, z_30, z_31, z_99, z_300, z_500, z_600, z_20000, z_m13, z_m11, z_7, z_11, z_13, z_15, z_18, z_40, z_80, z_100, z_120, z_150, z_179, z_210, z_999, z_104021, z_268435455, z_3070017, z_nL, zadd, zsub, zmul, zneg, zap]
    refine ⟨zin hq.1.1 hq.1.2 (by decide), ?_⟩
    try simp only [zcl hq.1.1 (Int.lt_trans hq.1.2 (by decide))]
    have hq := hq.2
    try simp only [z_m1, z_0, z_1, z_2, z_3, z_4, z_5, z_6, z_8, z_9, z_10, z_12, z_16, z_30, z_31, z_99, z_300, z_500, z_600, z_20000, z_m13, z_m11, z_7, z_11, z_13, z_15, z_18, z_40, z_80, z_100, z_120, z_150, z_179, z_210, z_999, z_104021, z_268435455, z_3070017, z_nL, zadd, zsub, zmul, zneg, zap]
    intro w9 e9
    rw [zshr hq.1 hq.2.1] at e9
    subst e9
    have zb := zshr_b (y := (7 : Int)) hq.1.1
    have hq := hq.2.2 _ zb.1 zb.2
    generalize ishr x17 (7 : Int) = z92 at hq ⊢
    try simp only [z_m1, z_0, z_1, z_2, z_3, z_4, z_5, z_6, z_8, z_9, z_10, z_12, z_16, z_30, z_31, z_99, z_300, z_500, z_600, z_20000, z_m13, z_m11, z_7, z_11, z_13, z_15, z_18, z_40, z_80, z_100, z_120, z_150, z_179, z_210, z_999, z_104021, z_268435455, z_3070017, z_nL, zadd, zsub, zmul, zneg, zap]
    refine ⟨fun c0 => absurd ((z_eq (by have := hq.2.1; unfold inR; omega) ⟨by decide, by decide⟩).mp c0) (by have := hq.2.1; omega), ?_⟩
    intro w9 e9
    rw [zrem hq.1 hq.2.1] at e9
    subst e9
    have zb := zrem_b hq.1.1 hq.2.1.1
    have hq := hq.2.2 _ zb.1 zb.2.1 zb.2.2
    generalize z92 % (120 : Int) = z93 at hq ⊢
    try simp only [z_m1, z_0, z_1, z_2, z_3, z_4, z_5, z_6, z_8, z_9, z_10, z_12, z_16, z_30, z_31, z_99, z_300, z_500, z_600, z_20000, z_m13, z_m11, z_7, z_11, z_13, z_15, z_18, z_40, z_80, z_100, z_120, z_150, z_179, z_210, z_999, z_104021, z_268435455, z_3070017, z_nL, zadd, zsub, zmul, zneg, zap]
    refine ⟨hq.1, tm_L_on hh hs hr (8 : Int) (h89 1 x10.toNat) ((10 : Int) + z93) (0 : Int) _ _ (fun r94 hh95 hs96 hr97 hq => ?_) hq.2⟩
    try simp only [z_m1, z_0, z_1, z_2, z_3, z_4, z_5, z_6, z_8, z_9, z_10, z_12, z_16, z_30, z_31, z_99, z_300, z_500, z_600, z_20000, z_m13, z_m11, z_7, z_11, z_13, z_15, z_18, z_40, z_80, z_100, z_120, z_150, z_179, z_210, z_999, z_104021, z_268435455, z_3070017, z_nL, zadd, zsub, zmul, zneg, zap]
    have rx := hq.1
    have hq := hq.2
    have ry := hq.1
    have hq := hq.2
    refine ⟨fun c => ?_, fun c => ?_⟩
    · have hq := hq.1 (fun h => c ((z_eq rx ry).mpr h))
      exact hq
    · have hq := hq.2 ((z_eq rx ry).mp c)
      obtain ⟨hkb, r98, hr98, hq⟩ := hq
      refine ⟨hkb, zI r98, tn_X4_tableOf hh95 hs96 hr97 x10 r98 hr98, ?_⟩
      try simp only [z_m1, z_0, z_1, z_2, z_3, z_4, z_5, z_6, z_8, z_9, z_10, z_12, z_16, z_30, z_31, z_99, z_300, z_500, z_600, z_20000, z_m13, z_m11, z_7, z_11, z_13, z_15, z_18, z_40, z_80, z_100, z_120, z_150, z_179, z_210, z_999, z_104021, z_268435455, z_3070017, z_nL, zadd, zsub, zmul, zneg, zap]
      have rx := hq.1
      have hq := hq.2
      refine ⟨fun c => ?_, fun c => ?_⟩
      · have hq := hq.1 ((z_lt rx ⟨by decide, by decide⟩).mp c)
        exact hq
      · have hq := hq.2 (fun h => c ((z_lt rx ⟨by decide, by decide⟩).mpr h))
        exact hq)
  have hq := hq (by
    intro k hh hs hr ha x9 x10 x11 x12 x14 x15 x17 x23 x24 t0 hq
    refine k866 k (zS hh) (zS hs) (zS hr) (zS ha) (zI x9) (zI x10) (zI x11) (zI x12) (zI x14) (zI x15) (zI x17) (zI x23) (zI x24) (zI t0) ?_
    try simp only [z_m1, z_0, z_1, z_2, z_3, z_4, z_5, z_6, z_8, z_9, z_10, z_12, z_16, z_30, z_31, z_99, z_300, z_500, z_600, z_20000, z_m13, z_m11, z_7, z_11, z_13, z_15, z_18, z_40, z_80, z_100, z_120, z_150, z_179, z_210, z_999, z_104021, z_268435455, z_3070017, z_nL, zadd, zsub, zmul, zneg, zap]
    have rx := hq.1
    have hq := hq.2
    refine ⟨fun c => ?_, fun c => ?_⟩
    · have hq := hq.1 ((z_lt rx ⟨by decide, by decide⟩).mp c)
      exact hq
    · have hq := hq.2 (fun h => c ((z_lt rx ⟨by decide, by decide⟩).mpr h))
      exact hq)
  have hq := hq (by
    intro k hh hs hr ha x9 x10 x11 x12 x14 x15 x17 x23 x24 t0 t1 hq
    refine k876 k (zS hh) (zS hs) (zS hr) (zS ha) (zI x9) (zI x10) (zI x11) (zI x12) (zI x14) (zI x15) (zI x17) (zI x23) (zI x24) (zI t0) (zI t1) ?_
    try simp only [z_m1, z_0, z_1, z_2, z_3, z_4, z_5, z_6, z_8, z_9, z_10, z_12, z_16, z_30, z_31, z_99, z_300, z_500, z_600, z_20000, z_m13, z_m11, z_7, z_11, z_13, z_15, z_18, z_40, z_80, z_100, z_120, z_150, z_179, z_210, z_999, z_104021, z_268435455, z_3070017, z_nL, zadd, zsub, zmul, zneg, zap]
    have rx := hq.1
    have hq := hq.2
    have ry := hq.1
    have hq := hq.2
    refine ⟨fun c => ?_, fun c => ?_⟩
    · have hq := hq.1 (fun h => c ((z_eq rx ry).mpr h))
      exact hq
    · have hq := hq.2 ((z_eq rx ry).mp c)
      obtain ⟨hkb, r135, hr135, hq⟩ := hq
      refine ⟨hkb, zI r135, t_X4_waiting hh hs hr r135 hr135, ?_⟩
      try simp only [z_m1, z_0, z_1, z_2, z_3, z_4, z_5, z_6, z_8, z_9, z_10, z_12, z_16, z_30, z_31, z_99, z_300, z_500, z_600, z_20000, z_m13, z_m11, z_7, z_11, z_13, z_15, z_18, z_40, z_80, z_100, z_120, z_150, z_179, z_210, z_999, z_104021, z_268435455, z_3070017, z_nL, zadd, zsub, zmul, zneg, zap]
      have rx := hq.1
      have hq := hq.2
      refine ⟨fun c => ?_, fun c => ?_⟩
      · have hq := hq.1 ((z_le ⟨by decide, by decide⟩ rx).mp c)
        exact hq
      · have hq := hq.2 (fun h => c ((z_le ⟨by decide, by decide⟩ rx).mpr h))
        exact hq)
  have hq := hq (by
    intro k hh hs hr ha x9 x10 x11 x12 x14 x15 x17 x23 t0 t1 t2 hq
    refine k895 k (zS hh) (zS hs) (zS hr) (zS ha) (zI x9) (zI x10) (zI x11) (zI x12) (zI x14) (zI x15) (zI x17) (zI x23) (zI t0) (zI t1) (zI t2) ?_
    try simp only [z_m1, z_0, z_1, z_2, z_3, z_4, z_5, z_6, z_8, z_9, z_10, z_12, z_16, z_30, z_31, z_99, z_300, z_500, z_600, z_20000, z_m13, z_m11, z_7, z_11, z_13, z_15, z_18, z_40, z_80, z_100, z_120, z_150, z_179, z_210, z_999, z_104021, z_268435455, z_3070017, z_nL, zadd, zsub, zmul, zneg, zap]
    have rx := hq.1
    have hq := hq.2
    have ry := hq.1
    have hq := hq.2
    refine ⟨fun c => ?_, fun c => ?_⟩
    · have hq := hq.1 (fun h => c ((z_eq rx ry).mpr h))
      exact hq
    · have hq := hq.2 ((z_eq rx ry).mp c)
      exact hq)
  have hq := hq (by
    intro k hh hs hr ha x9 x10 x11 x12 x14 x15 x17 x23 hq
    refine k903 k (zS hh) (zS hs) (zS hr) (zS ha) (zI x9) (zI x10) (zI x11) (zI x12) (zI x14) (zI x15) (zI x17) (zI x23) ?_
    try simp only [z_m1, z_0, z_1, z_2, z_3, z_4, z_5, z_6, z_8, z_9, z_10, z_12, z_16, z_30, z_31, z_99, z_300, z_500, z_600, z_20000, z_m13, z_m11, z_7, z_11, z_13, z_15, z_18, z_40, z_80, z_100, z_120, z_150, z_179, z_210, z_999, z_104021, z_268435455, z_3070017, z_nL, zadd, zsub, zmul, zneg, zap]
    exact hq)
  have hq := hq (by
    intro k hh hs hr ha x9 x10 x11 x12 x14 x15 x17 x23 t0 hq
    refine k904 k (zS hh) (zS hs) (zS hr) (zS ha) (zI x9) (zI x10) (zI x11) (zI x12) (zI x14) (zI x15) (zI x17) (zI x23) (zI t0) ?_
    try simp only [z_m1, z_0, z_1, z_2, z_3, z_4, z_5, z_6, z_8, z_9, z_10, z_12, z_16, z_30, z_31, z_99, z_300, z_500, z_600, z_20000, z_m13, z_m11, z_7, z_11, z_13, z_15, z_18, z_40, z_80, z_100, z_120, z_150, z_179, z_210, z_999, z_104021, z_268435455, z_3070017, z_nL, zadd, zsub, zmul, zneg, zap]
    obtain ⟨hkb, r134, hr134, hq⟩ := hq
    refine ⟨hkb, zI r134, tn_X4_tablesOf hh hs hr x10 r134 hr134, ?_⟩
    try simp only [z_m1, z_0, z_1, z_2, z_3, z_4, z_5, z_6, z_8, z_9, z_10, z_12, z_16, z_30, z_31, z_99, z_300, z_500, z_600, z_20000, z_m13, z_m11, z_7, z_11, z_13, z_15, z_18, z_40, z_80, z_100, z_120, z_150, z_179, z_210, z_999, z_104021, z_268435455, z_3070017, z_nL, zadd, zsub, zmul, zneg, zap]
    exact hq)
  have hq := hq (by
    intro k hh hs hr ha x9 x10 x11 x12 x13 x14 x15 x17 x23 x25 x26 hq
    refine k919 k (zS hh) (zS hs) (zS hr) (zS ha) (zI x9) (zI x10) (zI x11) (zI x12) (zI x13) (zI x14) (zI x15) (zI x17) (zI x23) (zI x25) (zI x26) ?_
    try simp only [z_m1, z_0, z_1, z_2, z_3, z_4, z_5, z_6, z_8, z_9, z_10, z_12, z_16, z_30, z_31, z_99, z_300, z_500, z_600, z_20000, z_m13, z_m11, z_7, z_11, z_13, z_15, z_18, z_40, z_80, z_100, z_120, z_150, z_179, z_210, z_999, z_104021, z_268435455, z_3070017, z_nL, zadd, zsub, zmul, zneg, zap]
    obtain ⟨hkb, r146, hr146, hq⟩ := hq
    refine ⟨hkb, zI r146, tn_X4_tablesOf hh hs hr x10 r146 hr146, ?_⟩
    try simp only [z_m1, z_0, z_1, z_2, z_3, z_4, z_5, z_6, z_8, z_9, z_10, z_12, z_16, z_30, z_31, z_99, z_300, z_500, z_600, z_20000, z_m13, z_m11, z_7, z_11, z_13, z_15, z_18, z_40, z_80, z_100, z_120, z_150, z_179, z_210, z_999, z_104021, z_268435455, z_3070017, z_nL, zadd, zsub, zmul, zneg, zap]
    have rx := hq.1
    have hq := hq.2
    have ry := hq.1
    have hq := hq.2
    refine ⟨fun c => ?_, fun c => ?_⟩
    · have hq := hq.1 ((z_le ry rx).mp c)
      have rx := hq.1
      have hq := hq.2
      refine ⟨fun c => ?_, fun c => ?_⟩
      · have hq := hq.1 ((z_eq rx ⟨by decide, by decide⟩).mp c)
        exact hq
      · have hq := hq.2 (fun h => c ((z_eq rx ⟨by decide, by decide⟩).mpr h))
        have rx := hq.1
        have hq := hq.2
        refine ⟨fun c => ?_, fun c => ?_⟩
        · have hq := hq.1 ((z_lt rx ⟨by decide, by decide⟩).mp c)
          exact hq
        · have hq := hq.2 (fun h => c ((z_lt rx ⟨by decide, by decide⟩).mpr h))
          refine ⟨zin hq.1.1 hq.1.2 (by decide), ?_⟩
          try simp only [zcl hq.1.1 (Int.lt_trans hq.1.2 (by decide))]
          have hq := hq.2
          try simp only [z_m1, z_0, z_1, z_2, z_3, z_4, z_5, z_6, z_8, z_9, z_10, z_12, z_16, z_30, z_31, z_99, z_300, z_500, z_600, z_20000, z_m13, z_m11, z_7, z_11, z_13, z_15, z_18, z_40, z_80, z_100, z_120, z_150, z_179, z_210, z_999, z_104021, z_268435455, z_3070017, z_nL, zadd, zsub, zmul, zneg, zap]
          have rx := hq.1
          have hq := hq.2
          have ry := hq.1
          have hq := hq.2
          refine ⟨fun c => ?_, fun c => ?_⟩
          · have hq := hq.1 (fun h => c ((z_eq rx ry).mpr h))
            exact hq
          · have hq := hq.2 ((z_eq rx ry).mp c)
            exact hq
    · have hq := hq.2 (fun h => c ((z_le ry rx).mpr h))
      obtain ⟨hkb, r147, hr147, hq⟩ := hq
      refine ⟨hkb, zI r147, tn_X4_tableOf hh hs hr x10 r147 hr147, ?_⟩
      try simp only [z_m1, z_0, z_1, z_2, z_3, z_4, z_5, z_6, z_8, z_9, z_10, z_12, z_16, z_30, z_31, z_99, z_300, z_500, z_600, z_20000, z_m13, z_m11, z_7, z_11, z_13, z_15, z_18, z_40, z_80, z_100, z_120, z_150, z_179, z_210, z_999, z_104021, z_268435455, z_3070017, z_nL, zadd, zsub, zmul, zneg, zap]
      refine ⟨zin hq.1.1 hq.1.2 (by decide), ?_⟩
      try simp only [zcl hq.1.1 (Int.lt_trans hq.1.2 (by decide))]
      have hq := hq.2
      try simp only [z_m1, z_0, z_1, z_2, z_3, z_4, z_5, z_6, z_8, z_9, z_10, z_12, z_16, z_30, z_31, z_99, z_300, z_500, z_600, z_20000, z_m13, z_m11, z_7, z_11, z_13, z_15, z_18, z_40, z_80, z_100, z_120, z_150, z_179, z_210, z_999, z_104021, z_268435455, z_3070017, z_nL, zadd, zsub, zmul, zneg, zap]
      exact hq)
  have hq := hq (by
    intro k hh hs hr ha x9 x10 x11 x12 x13 x14 x15 x17 x18 x19 x20 x21 x22 hq
    refine k987 k (zS hh) (zS hs) (zS hr) (zS ha) (zI x9) (zI x10) (zI x11) (zI x12) (zI x13) (zI x14) (zI x15) (zI x17) (zI x18) (zI x19) (zI x20) (zI x21) (zI x22) ?_
    try simp only [z_m1, z_0, z_1, z_2, z_3, z_4, z_5, z_6, z_8, z_9, z_10, z_12, z_16, z_30, z_31, z_99, z_300, z_500, z_600, z_20000, z_m13, z_m11, z_7, z_11, z_13, z_15, z_18, z_40, z_80, z_100, z_120, z_150, z_179, z_210, z_999, z_104021, z_268435455, z_3070017, z_nL, zadd, zsub, zmul, zneg, zap]
    have rx := hq.1
    have hq := hq.2
    refine ⟨fun c => ?_, fun c => ?_⟩
    · have hq := hq.1 (fun h => c ((z_eq rx ⟨by decide, by decide⟩).mpr h))
      exact hq
    · have hq := hq.2 ((z_eq rx ⟨by decide, by decide⟩).mp c)
      intro w9 e9
      have zb : 0 ≤ w9.toInt ∧ w9.toInt ≤ 3 := by rw [e9]; exact zand_b _ 3 (by decide)
      clear e9
      rw [← zI_of w9]
      have hq := hq w9.toInt zb.1 zb.2
      generalize w9.toInt = z83 at hq ⊢
      try simp only [z_m1, z_0, z_1, z_2, z_3, z_4, z_5, z_6, z_8, z_9, z_10, z_12, z_16, z_30, z_31, z_99, z_300, z_500, z_600, z_20000, z_m13, z_m11, z_7, z_11, z_13, z_15, z_18, z_40, z_80, z_100, z_120, z_150, z_179, z_210, z_999, z_104021, z_268435455, z_3070017, z_nL, zadd, zsub, zmul, zneg, zap]
      have rx := hq.1
      have hq := hq.2
      refine ⟨fun c => ?_, fun c => ?_⟩
      · have hq := hq.1 (fun h => c ((z_eq rx ⟨by decide, by decide⟩).mpr h))
        exact hq
      · have hq := hq.2 ((z_eq rx ⟨by decide, by decide⟩).mp c)
        have rx := hq.1
        have hq := hq.2
        refine ⟨fun c => ?_, fun c => ?_⟩
        · have hq := hq.1 (fun h => c ((z_eq rx ⟨by decide, by decide⟩).mpr h))
          refine ⟨hq.1, tm_L_on hh hs hr (1 : Int) x19 (0 : Int) (0 : Int) _ _ (fun r84 hh85 hs86 hr87 hq => ?_) hq.2⟩
          try simp only [z_m1, z_0, z_1, z_2, z_3, z_4, z_5, z_6, z_8, z_9, z_10, z_12, z_16, z_30, z_31, z_99, z_300, z_500, z_600, z_20000, z_m13, z_m11, z_7, z_11, z_13, z_15, z_18, z_40, z_80, z_100, z_120, z_150, z_179, z_210, z_999, z_104021, z_268435455, z_3070017, z_nL, zadd, zsub, zmul, zneg, zap]
          exact hq
        · have hq := hq.2 ((z_eq rx ⟨by decide, by decide⟩).mp c)
          exact hq)
  have hq := hq (by
    intro k hh hs hr ha x9 x10 x11 x12 x14 x15 x17 x19 t0 hq
    refine k1020 k (zS hh) (zS hs) (zS hr) (zS ha) (zI x9) (zI x10) (zI x11) (zI x12) (zI x14) (zI x15) (zI x17) (zI x19) (zI t0) ?_
    try simp only [z_m1, z_0, z_1, z_2, z_3, z_4, z_5, z_6, z_8, z_9, z_10, z_12, z_16, z_30, z_31, z_99, z_300, z_500, z_600, z_20000, z_m13, z_m11, z_7, z_11, z_13, z_15, z_18, z_40, z_80, z_100, z_120, z_150, z_179, z_210, z_999, z_104021, z_268435455, z_3070017, z_nL, zadd, zsub, zmul, zneg, zap]
    intro w9 e9
    rw [zshr hq.1 hq.2.1] at e9
    subst e9
    have zb := zshr_b (y := (2 : Int)) hq.1.1
    have hq := hq.2.2 _ zb.1 zb.2
    generalize ishr x17 (2 : Int) = z102 at hq ⊢
    try simp only [z_m1, z_0, z_1, z_2, z_3, z_4, z_5, z_6, z_8, z_9, z_10, z_12, z_16, z_30, z_31, z_99, z_300, z_500, z_600, z_20000, z_m13, z_m11, z_7, z_11, z_13, z_15, z_18, z_40, z_80, z_100, z_120, z_150, z_179, z_210, z_999, z_104021, z_268435455, z_3070017, z_nL, zadd, zsub, zmul, zneg, zap]
    refine ⟨fun c0 => absurd ((z_eq (by have := hq.2.1; unfold inR; omega) ⟨by decide, by decide⟩).mp c0) (by have := hq.2.1; omega), ?_⟩
    intro w9 e9
    rw [zrem hq.1 hq.2.1] at e9
    subst e9
    have zb := zrem_b hq.1.1 hq.2.1.1
    have hq := hq.2.2 _ zb.1 zb.2.1 zb.2.2
    generalize z102 % (30 : Int) = z103 at hq ⊢
    try simp only [z_m1, z_0, z_1, z_2, z_3, z_4, z_5, z_6, z_8, z_9, z_10, z_12, z_16, z_30, z_31, z_99, z_300, z_500, z_600, z_20000, z_m13, z_m11, z_7, z_11, z_13, z_15, z_18, z_40, z_80, z_100, z_120, z_150, z_179, z_210, z_999, z_104021, z_268435455, z_3070017, z_nL, zadd, zsub, zmul, zneg, zap]
    obtain ⟨hkb, r104, hr104, hq⟩ := hq
    refine ⟨hkb, zI r104, t_X4_now hh hs hr r104 hr104, ?_⟩
    try simp only [z_m1, z_0, z_1, z_2, z_3, z_4, z_5, z_6, z_8, z_9, z_10, z_12, z_16, z_30, z_31, z_99, z_300, z_500, z_600, z_20000, z_m13, z_m11, z_7, z_11, z_13, z_15, z_18, z_40, z_80, z_100, z_120, z_150, z_179, z_210, z_999, z_104021, z_268435455, z_3070017, z_nL, zadd, zsub, zmul, zneg, zap]
    refine ⟨hq.1, tn_X4_pass hh hs hr ((1 : Int) + z103) _ _ (fun r105 hh106 hs107 hr108 hq => ?_) hq.2⟩
    try simp only [z_m1, z_0, z_1, z_2, z_3, z_4, z_5, z_6, z_8, z_9, z_10, z_12, z_16, z_30, z_31, z_99, z_300, z_500, z_600, z_20000, z_m13, z_m11, z_7, z_11, z_13, z_15, z_18, z_40, z_80, z_100, z_120, z_150, z_179, z_210, z_999, z_104021, z_268435455, z_3070017, z_nL, zadd, zsub, zmul, zneg, zap]
    have rx := hq.1
    have hq := hq.2
    have ry := hq.1
    have hq := hq.2
    refine ⟨fun c => ?_, fun c => ?_⟩
    · have hq := hq.1 (fun h => c ((z_eq rx ry).mpr h))
      exact hq
    · have hq := hq.2 ((z_eq rx ry).mp c)
      have rx := hq.1
      have hq := hq.2
      refine ⟨fun c => ?_, fun c => ?_⟩
      · have hq := hq.1 ((z_eq rx ⟨by decide, by decide⟩).mp c)
        exact hq
      · have hq := hq.2 (fun h => c ((z_eq rx ⟨by decide, by decide⟩).mpr h))
        refine ⟨hq.1, tm_L_on hh106 hs107 hr108 (1 : Int) x19 (0 : Int) (0 : Int) _ _ (fun r109 hh110 hs111 hr112 hq => ?_) hq.2⟩
        try simp only [z_m1, z_0, z_1, z_2, z_3, z_4, z_5, z_6, z_8, z_9, z_10, z_12, z_16, z_30, z_31, z_99, z_300, z_500, z_600, z_20000, z_m13, z_m11, z_7, z_11, z_13, z_15, z_18, z_40, z_80, z_100, z_120, z_150, z_179, z_210, z_999, z_104021, z_268435455, z_3070017, z_nL, zadd, zsub, zmul, zneg, zap]
        have rx := hq.1
        have hq := hq.2
        refine ⟨fun c => ?_, fun c => ?_⟩
        · have hq := hq.1 (fun h => c ((z_eq rx ⟨by decide, by decide⟩).mpr h))
          have rx := hq.1
          have hq := hq.2
          have ry := hq.1
          have hq := hq.2
          refine ⟨fun c => ?_, fun c => ?_⟩
          · have hq := hq.1 ((z_le rx ry).mp c)
            have rx := hq.1
            have hq := hq.2
            refine ⟨fun c => ?_, fun c => ?_⟩
            · have hq := hq.1 (fun h => c ((z_eq rx ⟨by decide, by decide⟩).mpr h))
              exact hq
            · have hq := hq.2 ((z_eq rx ⟨by decide, by decide⟩).mp c)
              exact hq
          · have hq := hq.2 (fun h => c ((z_le rx ry).mpr h))
            have rx := hq.1
            have hq := hq.2
            have ry := hq.1
            have hq := hq.2
            refine ⟨fun c => ?_, fun c => ?_⟩
            · have hq := hq.1 (fun h => c ((z_eq rx ry).mpr h))
              exact hq
            · have hq := hq.2 ((z_eq rx ry).mp c)
              exact hq
        · have hq := hq.2 ((z_eq rx ⟨by decide, by decide⟩).mp c)
          have rx := hq.1
          have hq := hq.2
          refine ⟨fun c => ?_, fun c => ?_⟩
          · have hq := hq.1 (fun h => c ((z_eq rx ⟨by decide, by decide⟩).mpr h))
            exact hq
          · have hq := hq.2 ((z_eq rx ⟨by decide, by decide⟩).mp c)
            exact hq)
  have hq := hq (by
    intro k hh hs hr ha x9 x10 x11 x12 x13 x14 x15 x17 x18 x19 x20 x21 x22 hq
    refine k1108 k (zS hh) (zS hs) (zS hr) (zS ha) (zI x9) (zI x10) (zI x11) (zI x12) (zI x13) (zI x14) (zI x15) (zI x17) (zI x18) (zI x19) (zI x20) (zI x21) (zI x22) ?_
    try simp only [z_m1, z_0, z_1, z_2, z_3, z_4, z_5, z_6, z_8, z_9, z_10, z_12, z_16, z_30, z_31, z_99, z_300, z_500, z_600, z_20000, z_m13, z_m11, z_7, z_11, z_13, z_15, z_18, z_40, z_80, z_100, z_120, z_150, z_179, z_210, z_999, z_104021, z_268435455, z_3070017, z_nL, zadd, zsub, zmul, zneg, zap]
    have rx := hq.1
    have hq := hq.2
    refine ⟨fun c => ?_, fun c => ?_⟩
    · have hq := hq.1 ((z_le ⟨by decide, by decide⟩ rx).mp c)
      exact hq
    · have hq := hq.2 (fun h => c ((z_le ⟨by decide, by decide⟩ rx).mpr h))
      have rx := hq.1
      have hq := hq.2
      refine ⟨fun c => ?_, fun c => ?_⟩
      · have hq := hq.1 ((z_le rx ⟨by decide, by decide⟩).mp c)
        exact hq
      · have hq := hq.2 (fun h => c ((z_le rx ⟨by decide, by decide⟩).mpr h))
        obtain ⟨hkb, r100, hr100, hq⟩ := hq
        refine ⟨hkb, zI r100, t_X4_waiting hh hs hr r100 hr100, ?_⟩
        try simp only [z_m1, z_0, z_1, z_2, z_3, z_4, z_5, z_6, z_8, z_9, z_10, z_12, z_16, z_30, z_31, z_99, z_300, z_500, z_600, z_20000, z_m13, z_m11, z_7, z_11, z_13, z_15, z_18, z_40, z_80, z_100, z_120, z_150, z_179, z_210, z_999, z_104021, z_268435455, z_3070017, z_nL, zadd, zsub, zmul, zneg, zap]
        obtain ⟨hkb, r101, hr101, hq⟩ := hq
        refine ⟨hkb, zI r101, tn_X4_tableOf hh hs hr x19 r101 hr101, ?_⟩
        try simp only [z_m1, z_0, z_1, z_2, z_3, z_4, z_5, z_6, z_8, z_9, z_10, z_12, z_16, z_30, z_31, z_99, z_300, z_500, z_600, z_20000, z_m13, z_m11, z_7, z_11, z_13, z_15, z_18, z_40, z_80, z_100, z_120, z_150, z_179, z_210, z_999, z_104021, z_268435455, z_3070017, z_nL, zadd, zsub, zmul, zneg, zap]
        have rx := hq.1
        have hq := hq.2
        refine ⟨fun c => ?_, fun c => ?_⟩
        · have hq := hq.1 ((z_le ⟨by decide, by decide⟩ rx).mp c)
          exact hq
        · have hq := hq.2 (fun h => c ((z_le ⟨by decide, by decide⟩ rx).mpr h))
          refine ⟨zin hq.1.1 hq.1.2 (by decide), ?_⟩
          try simp only [zcl hq.1.1 (Int.lt_trans hq.1.2 (by decide))]
          have hq := hq.2
          try simp only [z_m1, z_0, z_1, z_2, z_3, z_4, z_5, z_6, z_8, z_9, z_10, z_12, z_16, z_30, z_31, z_99, z_300, z_500, z_600, z_20000, z_m13, z_m11, z_7, z_11, z_13, z_15, z_18, z_40, z_80, z_100, z_120, z_150, z_179, z_210, z_999, z_104021, z_268435455, z_3070017, z_nL, zadd, zsub, zmul, zneg, zap]
          have rx := hq.1
          have hq := hq.2
          refine ⟨fun c => ?_, fun c => ?_⟩
          · have hq := hq.1 (fun h => c ((z_eq rx ⟨by decide, by decide⟩).mpr h))
            exact hq
          · have hq := hq.2 ((z_eq rx ⟨by decide, by decide⟩).mp c)
            exact hq)
  have hq := hq (by
    intro k hh hs hr ha x9 x10 x11 x12 x14 x15 x17 x19 x23 hq
    refine k1147 k (zS hh) (zS hs) (zS hr) (zS ha) (zI x9) (zI x10) (zI x11) (zI x12) (zI x14) (zI x15) (zI x17) (zI x19) (zI x23) ?_
    try simp only [z_m1, z_0, z_1, z_2, z_3, z_4, z_5, z_6, z_8, z_9, z_10, z_12, z_16, z_30, z_31, z_99, z_300, z_500, z_600, z_20000, z_m13, z_m11, z_7, z_11, z_13, z_15, z_18, z_40, z_80, z_100, z_120, z_150, z_179, z_210, z_999, z_104021, z_268435455, z_3070017, z_nL, zadd, zsub, zmul, zneg, zap]
    exact hq)
  have hq := hq (by
    intro k hh hs hr ha x9 x10 x11 x12 x14 x15 x17 x19 x23 t0 hq
    refine k1148 k (zS hh) (zS hs) (zS hr) (zS ha) (zI x9) (zI x10) (zI x11) (zI x12) (zI x14) (zI x15) (zI x17) (zI x19) (zI x23) (zI t0) ?_
    try simp only [z_m1, z_0, z_1, z_2, z_3, z_4, z_5, z_6, z_8, z_9, z_10, z_12, z_16, z_30, z_31, z_99, z_300, z_500, z_600, z_20000, z_m13, z_m11, z_7, z_11, z_13, z_15, z_18, z_40, z_80, z_100, z_120, z_150, z_179, z_210, z_999, z_104021, z_268435455, z_3070017, z_nL, zadd, zsub, zmul, zneg, zap]
    refine ⟨zin hq.1.1 hq.1.2 (by decide), ?_⟩
    try simp only [zcl hq.1.1 (Int.lt_trans hq.1.2 (by decide))]
    have hq := hq.2
    try simp only [z_m1, z_0, z_1, z_2, z_3, z_4, z_5, z_6, z_8, z_9, z_10, z_12, z_16, z_30, z_31, z_99, z_300, z_500, z_600, z_20000, z_m13, z_m11, z_7, z_11, z_13, z_15, z_18, z_40, z_80, z_100, z_120, z_150, z_179, z_210, z_999, z_104021, z_268435455, z_3070017, z_nL, zadd, zsub, zmul, zneg, zap]
    have rx := hq.1
    have hq := hq.2
    refine ⟨fun c => ?_, fun c => ?_⟩
    · have hq := hq.1 (fun h => c ((z_eq rx ⟨by decide, by decide⟩).mpr h))
      exact hq
    · have hq := hq.2 ((z_eq rx ⟨by decide, by decide⟩).mp c)
      obtain ⟨hkb, r133, hr133, hq⟩ := hq
      refine ⟨hkb, zI r133, tn_X4_copyOf hh hs hr x19 r133 hr133, ?_⟩
      try simp only [z_m1, z_0, z_1, z_2, z_3, z_4, z_5, z_6, z_8, z_9, z_10, z_12, z_16, z_30, z_31, z_99, z_300, z_500, z_600, z_20000, z_m13, z_m11, z_7, z_11, z_13, z_15, z_18, z_40, z_80, z_100, z_120, z_150, z_179, z_210, z_999, z_104021, z_268435455, z_3070017, z_nL, zadd, zsub, zmul, zneg, zap]
      have rx := hq.1
      have hq := hq.2
      refine ⟨fun c => ?_, fun c => ?_⟩
      · have hq := hq.1 (fun h => c ((z_eq rx ⟨by decide, by decide⟩).mpr h))
        exact hq
      · have hq := hq.2 ((z_eq rx ⟨by decide, by decide⟩).mp c)
        exact hq)
  have hq := hq (by
    intro k hh hs hr ha x9 x10 x11 x12 x14 x15 x17 x19 x23 x24 hq
    refine k1172 k (zS hh) (zS hs) (zS hr) (zS ha) (zI x9) (zI x10) (zI x11) (zI x12) (zI x14) (zI x15) (zI x17) (zI x19) (zI x23) (zI x24) ?_
    try simp only [z_m1, z_0, z_1, z_2, z_3, z_4, z_5, z_6, z_8, z_9, z_10, z_12, z_16, z_30, z_31, z_99, z_300, z_500, z_600, z_20000, z_m13, z_m11, z_7, z_11, z_13, z_15, z_18, z_40, z_80, z_100, z_120, z_150, z_179, z_210, z_999, z_104021, z_268435455, z_3070017, z_nL, zadd, zsub, zmul, zneg, zap]
    exact hq)
  have hq := hq (by
    intro k hh hs hr ha x9 x10 x11 x12 x14 x15 x17 x19 x23 x24 t0 hq
    refine k1173 k (zS hh) (zS hs) (zS hr) (zS ha) (zI x9) (zI x10) (zI x11) (zI x12) (zI x14) (zI x15) (zI x17) (zI x19) (zI x23) (zI x24) (zI t0) ?_
    try simp only [z_m1, z_0, z_1, z_2, z_3, z_4, z_5, z_6, z_8, z_9, z_10, z_12, z_16, z_30, z_31, z_99, z_300, z_500, z_600, z_20000, z_m13, z_m11, z_7, z_11, z_13, z_15, z_18, z_40, z_80, z_100, z_120, z_150, z_179, z_210, z_999, z_104021, z_268435455, z_3070017, z_nL, zadd, zsub, zmul, zneg, zap]
    refine ⟨hq.1, tm_L_on hh hs hr (0 : Int) x19 (0 : Int) (0 : Int) _ _ (fun r142 hh143 hs144 hr145 hq => ?_) hq.2⟩
    try simp only [z_m1, z_0, z_1, z_2, z_3, z_4, z_5, z_6, z_8, z_9, z_10, z_12, z_16, z_30, z_31, z_99, z_300, z_500, z_600, z_20000, z_m13, z_m11, z_7, z_11, z_13, z_15, z_18, z_40, z_80, z_100, z_120, z_150, z_179, z_210, z_999, z_104021, z_268435455, z_3070017, z_nL, zadd, zsub, zmul, zneg, zap]
    have rx := hq.1
    have hq := hq.2
    refine ⟨fun c => ?_, fun c => ?_⟩
    · have hq := hq.1 (fun h => c ((z_eq rx ⟨by decide, by decide⟩).mpr h))
      exact hq
    · have hq := hq.2 ((z_eq rx ⟨by decide, by decide⟩).mp c)
      exact hq)
  have hq := hq (by
    intro k hh hs hr ha x9 x10 x11 x12 x14 x15 x17 x19 x23 x24 x25 x26 t0 hq
    refine k1198 k (zS hh) (zS hs) (zS hr) (zS ha) (zI x9) (zI x10) (zI x11) (zI x12) (zI x14) (zI x15) (zI x17) (zI x19) (zI x23) (zI x24) (zI x25) (zI x26) (zI t0) ?_
    try simp only [z_m1, z_0, z_1, z_2, z_3, z_4, z_5, z_6, z_8, z_9, z_10, z_12, z_16, z_30, z_31, z_99, z_300, z_500, z_600, z_20000, z_m13, z_m11, z_7, z_11, z_13, z_15, z_18, z_40, z_80, z_100, z_120, z_150, z_179, z_210, z_999, z_104021, z_268435455, z_3070017, z_nL, zadd, zsub, zmul, zneg, zap]
    have rx := hq.1
    have hq := hq.2
    refine ⟨fun c => ?_, fun c => ?_⟩
    · have hq := hq.1 (fun h => c ((z_eq rx ⟨by decide, by decide⟩).mpr h))
      exact hq
    · have hq := hq.2 ((z_eq rx ⟨by decide, by decide⟩).mp c)
      exact hq)
  have hq := hq (by
    intro k hh hs hr ha x9 x10 x11 x12 x14 x15 x17 x19 x23 x24 x26 t0 t1 hq
    refine k1208 k (zS hh) (zS hs) (zS hr) (zS ha) (zI x9) (zI x10) (zI x11) (zI x12) (zI x14) (zI x15) (zI x17) (zI x19) (zI x23) (zI x24) (zI x26) (zI t0) (zI t1) ?_
    try simp only [z_m1, z_0, z_1, z_2, z_3, z_4, z_5, z_6, z_8, z_9, z_10, z_12, z_16, z_30, z_31, z_99, z_300, z_500, z_600, z_20000, z_m13, z_m11, z_7, z_11, z_13, z_15, z_18, z_40, z_80, z_100, z_120, z_150, z_179, z_210, z_999, z_104021, z_268435455, z_3070017, z_nL, zadd, zsub, zmul, zneg, zap]
    have rx := hq.1
    have hq := hq.2
    have ry := hq.1
    have hq := hq.2
    refine ⟨fun c => ?_, fun c => ?_⟩
    · have hq := hq.1 (fun h => c ((z_eq rx ry).mpr h))
      exact hq
    · have hq := hq.2 ((z_eq rx ry).mp c)
      have rx := hq.1
      have hq := hq.2
      refine ⟨fun c => ?_, fun c => ?_⟩
      · have hq := hq.1 ((z_le ⟨by decide, by decide⟩ rx).mp c)
        obtain ⟨hkb, r167, hr167, hq⟩ := hq
        refine ⟨hkb, zI r167, t_X4_waiting hh hs hr r167 hr167, ?_⟩
        try simp only [z_m1, z_0, z_1, z_2, z_3, z_4, z_5, z_6, z_8, z_9, z_10, z_12, z_16, z_30, z_31, z_99, z_300, z_500, z_600, z_20000, z_m13, z_m11, z_7, z_11, z_13, z_15, z_18, z_40, z_80, z_100, z_120, z_150, z_179, z_210, z_999, z_104021, z_268435455, z_3070017, z_nL, zadd, zsub, zmul, zneg, zap]
        have rx := hq.1
        have hq := hq.2
        refine ⟨fun c => ?_, fun c => ?_⟩
        · have hq := hq.1 ((z_eq rx ⟨by decide, by decide⟩).mp c)
          have rx := hq.1
          have hq := hq.2
          have ry := hq.1
          have hq := hq.2
          refine ⟨fun c => ?_, fun c => ?_⟩
          · have hq := hq.1 (fun h => c ((z_eq rx ry).mpr h))
            exact hq
          · have hq := hq.2 ((z_eq rx ry).mp c)
            obtain ⟨hkb, r168, hr168, hq⟩ := hq
            refine ⟨hkb, zI r168, tn_X4_tableOf hh hs hr x19 r168 hr168, ?_⟩
            try simp only [z_m1, z_0, z_1, z_2, z_3, z_4, z_5, z_6, z_8, z_9, z_10, z_12, z_16, z_30, z_31, z_99, z_300, z_500, z_600, z_20000, z_m13, z_m11, z_7, z_11, z_13, z_15, z_18, z_40, z_80, z_100, z_120, z_150, z_179, z_210, z_999, z_104021, z_268435455, z_3070017, z_nL, zadd, zsub, zmul, zneg, zap]
            have rx := hq.1
            have hq := hq.2
            refine ⟨fun c => ?_, fun c => ?_⟩
            · have hq := hq.1 (fun h => c ((z_eq rx ⟨by decide, by decide⟩).mpr h))
              exact hq
            · have hq := hq.2 ((z_eq rx ⟨by decide, by decide⟩).mp c)
              exact hq
        · have hq := hq.2 (fun h => c ((z_eq rx ⟨by decide, by decide⟩).mpr h))
          have rx := hq.1
          have hq := hq.2
          have ry := hq.1
          have hq := hq.2
          refine ⟨fun c => ?_, fun c => ?_⟩
          · have hq := hq.1 (fun h => c ((z_eq rx ry).mpr h))
            exact hq
          · have hq := hq.2 ((z_eq rx ry).mp c)
            obtain ⟨hkb, r169, hr169, hq⟩ := hq
            refine ⟨hkb, zI r169, tn_X4_tableOf hh hs hr x19 r169 hr169, ?_⟩
            try simp only [z_m1, z_0, z_1, z_2, z_3, z_4, z_5, z_6, z_8, z_9, z_10, z_12, z_16, z_30, z_31, z_99, z_300, z_500, z_600, z_20000, z_m13, z_m11, z_7, z_11, z_13, z_15, z_18, z_40, z_80, z_100, z_120, z_150, z_179, z_210, z_999, z_104021, z_268435455, z_3070017, z_nL, zadd, zsub, zmul, zneg, zap]
            have rx := hq.1
            have hq := hq.2
            refine ⟨fun c => ?_, fun c => ?_⟩
            · have hq := hq.1 (fun h => c ((z_eq rx ⟨by decide, by decide⟩).mpr h))
              exact hq
            · have hq := hq.2 ((z_eq rx ⟨by decide, by decide⟩).mp c)
              exact hq
      · have hq := hq.2 (fun h => c ((z_le ⟨by decide, by decide⟩ rx).mpr h))
        obtain ⟨hkb, r170, hr170, hq⟩ := hq
        refine ⟨hkb, zI r170, t_X4_waiting hh hs hr r170 hr170, ?_⟩
        try simp only [z_m1, z_0, z_1, z_2, z_3, z_4, z_5, z_6, z_8, z_9, z_10, z_12, z_16, z_30, z_31, z_99, z_300, z_500, z_600, z_20000, z_m13, z_m11, z_7, z_11, z_13, z_15, z_18, z_40, z_80, z_100, z_120, z_150, z_179, z_210, z_999, z_104021, z_268435455, z_3070017, z_nL, zadd, zsub, zmul, zneg, zap]
        have rx := hq.1
        have hq := hq.2
        have ry := hq.1
        have hq := hq.2
        refine ⟨fun c => ?_, fun c => ?_⟩
        · have hq := hq.1 (fun h => c ((z_eq rx ry).mpr h))
          exact hq
        · have hq := hq.2 ((z_eq rx ry).mp c)
          exact hq)
  have hq := hq (by
    intro k hh hs hr ha x9 x10 x11 x12 x14 x15 x17 x19 x26 hq
    refine k1261 k (zS hh) (zS hs) (zS hr) (zS ha) (zI x9) (zI x10) (zI x11) (zI x12) (zI x14) (zI x15) (zI x17) (zI x19) (zI x26) ?_
    try simp only [z_m1, z_0, z_1, z_2, z_3, z_4, z_5, z_6, z_8, z_9, z_10, z_12, z_16, z_30, z_31, z_99, z_300, z_500, z_600, z_20000, z_m13, z_m11, z_7, z_11, z_13, z_15, z_18, z_40, z_80, z_100, z_120, z_150, z_179, z_210, z_999, z_104021, z_268435455, z_3070017, z_nL, zadd, zsub, zmul, zneg, zap]
    exact hq)
  have hq := hq (by
    intro k hh hs hr ha x9 x10 x11 x12 x14 x15 x17 x19 x26 hq
    refine k1265 k (zS hh) (zS hs) (zS hr) (zS ha) (zI x9) (zI x10) (zI x11) (zI x12) (zI x14) (zI x15) (zI x17) (zI x19) (zI x26) ?_
    try simp only [z_m1, z_0, z_1, z_2, z_3, z_4, z_5, z_6, z_8, z_9, z_10, z_12, z_16, z_30, z_31, z_99, z_300, z_500, z_600, z_20000, z_m13, z_m11, z_7, z_11, z_13, z_15, z_18, z_40, z_80, z_100, z_120, z_150, z_179, z_210, z_999, z_104021, z_268435455, z_3070017, z_nL, zadd, zsub, zmul, zneg, zap]
    exact hq)
  have hq := hq (by
    intro k hh hs hr ha x9 x10 x11 x12 x14 x15 x17 x19 x26 t0 hq
    refine k1266 k (zS hh) (zS hs) (zS hr) (zS ha) (zI x9) (zI x10) (zI x11) (zI x12) (zI x14) (zI x15) (zI x17) (zI x19) (zI x26) (zI t0) ?_
    try simp only [z_m1, z_0, z_1, z_2, z_3, z_4, z_5, z_6, z_8, z_9, z_10, z_12, z_16, z_30, z_31, z_99, z_300, z_500, z_600, z_20000, z_m13, z_m11, z_7, z_11, z_13, z_15, z_18, z_40, z_80, z_100, z_120, z_150, z_179, z_210, z_999, z_104021, z_268435455, z_3070017, z_nL, zadd, zsub, zmul, zneg, zap]
    have rx := hq.1
    have hq := hq.2
    refine ⟨fun c => ?_, fun c => ?_⟩
    · have hq := hq.1 ((z_le ⟨by decide, by decide⟩ rx).mp c)
      refine ⟨zin hq.1.1 hq.1.2 (by decide), ?_⟩
      try simp only [zcl hq.1.1 (Int.lt_trans hq.1.2 (by decide))]
      have hq := hq.2
      intro g9 eg9
      rw [zset] at eg9
      subst eg9
      have hq := hq _ rfl
      generalize iset ha 2 x19.toNat (1 : Int) = h171 at hq ⊢
      try simp only [z_m1, z_0, z_1, z_2, z_3, z_4, z_5, z_6, z_8, z_9, z_10, z_12, z_16, z_30, z_31, z_99, z_300, z_500, z_600, z_20000, z_m13, z_m11, z_7, z_11, z_13, z_15, z_18, z_40, z_80, z_100, z_120, z_150, z_179, z_210, z_999, z_104021, z_268435455, z_3070017, z_nL, zadd, zsub, zmul, zneg, zap]
      exact hq
    · have hq := hq.2 (fun h => c ((z_le ⟨by decide, by decide⟩ rx).mpr h))
      refine ⟨zin hq.1.1 hq.1.2 (by decide), ?_⟩
      try simp only [zcl hq.1.1 (Int.lt_trans hq.1.2 (by decide))]
      have hq := hq.2
      try simp only [z_m1, z_0, z_1, z_2, z_3, z_4, z_5, z_6, z_8, z_9, z_10, z_12, z_16, z_30, z_31, z_99, z_300, z_500, z_600, z_20000, z_m13, z_m11, z_7, z_11, z_13, z_15, z_18, z_40, z_80, z_100, z_120, z_150, z_179, z_210, z_999, z_104021, z_268435455, z_3070017, z_nL, zadd, zsub, zmul, zneg, zap]
      refine ⟨zin hq.1.1 hq.1.2 (by decide), ?_⟩
      try simp only [zcl hq.1.1 (Int.lt_trans hq.1.2 (by decide))]
      have hq := hq.2
      intro g9 eg9
      rw [zset] at eg9
      subst eg9
      have hq := hq _ rfl
      generalize iset ha 2 x19.toNat (ha 2 x19.toNat) = h172 at hq ⊢
      try simp only [z_m1, z_0, z_1, z_2, z_3, z_4, z_5, z_6, z_8, z_9, z_10, z_12, z_16, z_30, z_31, z_99, z_300, z_500, z_600, z_20000, z_m13, z_m11, z_7, z_11, z_13, z_15, z_18, z_40, z_80, z_100, z_120, z_150, z_179, z_210, z_999, z_104021, z_268435455, z_3070017, z_nL, zadd, zsub, zmul, zneg, zap]
      exact hq)
  have hq := hq (by
    intro k hh hs hr ha x9 x10 x11 x12 x13 x14 x15 x17 x18 x19 x20 x21 x22 hq
    refine k1290 k (zS hh) (zS hs) (zS hr) (zS ha) (zI x9) (zI x10) (zI x11) (zI x12) (zI x13) (zI x14) (zI x15) (zI x17) (zI x18) (zI x19) (zI x20) (zI x21) (zI x22) ?_
    try simp only [z_m1, z_0, z_1, z_2, z_3, z_4, z_5, z_6, z_8, z_9, z_10, z_12, z_16, z_30, z_31, z_99, z_300, z_500, z_600, z_20000, z_m13, z_m11, z_7, z_11, z_13, z_15, z_18, z_40, z_80, z_100, z_120, z_150, z_179, z_210, z_999, z_104021, z_268435455, z_3070017, z_nL, zadd, zsub, zmul, zneg, zap]
    have rx := hq.1
    have hq := hq.2
    refine ⟨fun c => ?_, fun c => ?_⟩
    · have hq := hq.1 ((z_le ⟨by decide, by decide⟩ rx).mp c)
      exact hq
    · have hq := hq.2 (fun h => c ((z_le ⟨by decide, by decide⟩ rx).mpr h))
      have rx := hq.1
      have hq := hq.2
      refine ⟨fun c => ?_, fun c => ?_⟩
      · have hq := hq.1 ((z_le rx ⟨by decide, by decide⟩).mp c)
        exact hq
      · have hq := hq.2 (fun h => c ((z_le rx ⟨by decide, by decide⟩).mpr h))
        have rx := hq.1
        have hq := hq.2
        refine ⟨fun c => ?_, fun c => ?_⟩
        · have hq := hq.1 ((z_le rx ⟨by decide, by decide⟩).mp c)
          exact hq
        · have hq := hq.2 (fun h => c ((z_le rx ⟨by decide, by decide⟩).mpr h))
          obtain ⟨hkb, r119, hr119, hq⟩ := hq
          refine ⟨hkb, zI r119, t_L_pieces hh hs hr ha x12 x22 r119 hr119, ?_⟩
          try simp only [z_m1, z_0, z_1, z_2, z_3, z_4, z_5, z_6, z_8, z_9, z_10, z_12, z_16, z_30, z_31, z_99, z_300, z_500, z_600, z_20000, z_m13, z_m11, z_7, z_11, z_13, z_15, z_18, z_40, z_80, z_100, z_120, z_150, z_179, z_210, z_999, z_104021, z_268435455, z_3070017, z_nL, zadd, zsub, zmul, zneg, zap]
          refine ⟨hq.1, tm_L_on hh hs hr (2 : Int) x19 x20 (0 : Int) _ _ (fun r120 hh121 hs122 hr123 hq => ?_) hq.2⟩
          try simp only [z_m1, z_0, z_1, z_2, z_3, z_4, z_5, z_6, z_8, z_9, z_10, z_12, z_16, z_30, z_31, z_99, z_300, z_500, z_600, z_20000, z_m13, z_m11, z_7, z_11, z_13, z_15, z_18, z_40, z_80, z_100, z_120, z_150, z_179, z_210, z_999, z_104021, z_268435455, z_3070017, z_nL, zadd, zsub, zmul, zneg, zap]
          have rx := hq.1
          have hq := hq.2
          refine ⟨fun c => ?_, fun c => ?_⟩
          · have hq := hq.1 (fun h => c ((z_eq rx ⟨by decide, by decide⟩).mpr h))
            refine ⟨zin hq.1.1 hq.1.2 (by decide), ?_⟩
            try simp only [zcl hq.1.1 (Int.lt_trans hq.1.2 (by decide))]
            have hq := hq.2
            try simp only [z_m1, z_0, z_1, z_2, z_3, z_4, z_5, z_6, z_8, z_9, z_10, z_12, z_16, z_30, z_31, z_99, z_300, z_500, z_600, z_20000, z_m13, z_m11, z_7, z_11, z_13, z_15, z_18, z_40, z_80, z_100, z_120, z_150, z_179, z_210, z_999, z_104021, z_268435455, z_3070017, z_nL, zadd, zsub, zmul, zneg, zap]
            have rx := hq.1
            have hq := hq.2
            have ry := hq.1
            have hq := hq.2
            refine ⟨fun c => ?_, fun c => ?_⟩
            · have hq := hq.1 (fun h => c ((z_eq rx ry).mpr h))
              exact hq
            · have hq := hq.2 ((z_eq rx ry).mp c)
              obtain ⟨hkb, r124, hr124, hq⟩ := hq
              refine ⟨hkb, zI r124, tn_X4_copyOf hh121 hs122 hr123 x19 r124 hr124, ?_⟩
              try simp only [z_m1, z_0, z_1, z_2, z_3, z_4, z_5, z_6, z_8, z_9, z_10, z_12, z_16, z_30, z_31, z_99, z_300, z_500, z_600, z_20000, z_m13, z_m11, z_7, z_11, z_13, z_15, z_18, z_40, z_80, z_100, z_120, z_150, z_179, z_210, z_999, z_104021, z_268435455, z_3070017, z_nL, zadd, zsub, zmul, zneg, zap]
              have rx := hq.1
              have hq := hq.2
              have ry := hq.1
              have hq := hq.2
              refine ⟨fun c => ?_, fun c => ?_⟩
              · have hq := hq.1 (fun h => c ((z_eq rx ry).mpr h))
                exact hq
              · have hq := hq.2 ((z_eq rx ry).mp c)
                obtain ⟨hkb, r125, hr125, hq⟩ := hq
                refine ⟨hkb, zI r125, tn_X4_stateOf hh121 hs122 hr123 r120 r125 hr125, ?_⟩
                try simp only [z_m1, z_0, z_1, z_2, z_3, z_4, z_5, z_6, z_8, z_9, z_10, z_12, z_16, z_30, z_31, z_99, z_300, z_500, z_600, z_20000, z_m13, z_m11, z_7, z_11, z_13, z_15, z_18, z_40, z_80, z_100, z_120, z_150, z_179, z_210, z_999, z_104021, z_268435455, z_3070017, z_nL, zadd, zsub, zmul, zneg, zap]
                have rx := hq.1
                have hq := hq.2
                refine ⟨fun c => ?_, fun c => ?_⟩
                · have hq := hq.1 (fun h => c ((z_eq rx ⟨by decide, by decide⟩).mpr h))
                  exact hq
                · have hq := hq.2 ((z_eq rx ⟨by decide, by decide⟩).mp c)
                  obtain ⟨hkb, r126, hr126, hq⟩ := hq
                  refine ⟨hkb, zI r126, tn_X4_offers hh121 hs122 hr123 x19 r126 hr126, ?_⟩
                  try simp only [z_m1, z_0, z_1, z_2, z_3, z_4, z_5, z_6, z_8, z_9, z_10, z_12, z_16, z_30, z_31, z_99, z_300, z_500, z_600, z_20000, z_m13, z_m11, z_7, z_11, z_13, z_15, z_18, z_40, z_80, z_100, z_120, z_150, z_179, z_210, z_999, z_104021, z_268435455, z_3070017, z_nL, zadd, zsub, zmul, zneg, zap]
                  have rx := hq.1
                  have hq := hq.2
                  refine ⟨fun c => ?_, fun c => ?_⟩
                  · have hq := hq.1 (fun h => c ((z_eq rx ⟨by decide, by decide⟩).mpr h))
                    exact hq
                  · have hq := hq.2 ((z_eq rx ⟨by decide, by decide⟩).mp c)
                    refine ⟨hq.1, tm_L_on hh121 hs122 hr123 (2 : Int) x19 x20 (0 : Int) _ _ (fun r127 hh128 hs129 hr130 hq => ?_) hq.2⟩
                    try simp only [z_m1, z_0, z_1, z_2, z_3, z_4, z_5, z_6, z_8, z_9, z_10, z_12, z_16, z_30, z_31, z_99, z_300, z_500, z_600, z_20000, z_m13, z_m11, z_7, z_11, z_13, z_15, z_18, z_40, z_80, z_100, z_120, z_150, z_179, z_210, z_999, z_104021, z_268435455, z_3070017, z_nL, zadd, zsub, zmul, zneg, zap]
                    have rx := hq.1
                    have hq := hq.2
                    refine ⟨fun c => ?_, fun c => ?_⟩
                    · have hq := hq.1 (fun h => c ((z_eq rx ⟨by decide, by decide⟩).mpr h))
                      exact hq
                    · have hq := hq.2 ((z_eq rx ⟨by decide, by decide⟩).mp c)
                      exact hq
          · have hq := hq.2 ((z_eq rx ⟨by decide, by decide⟩).mp c)
            refine ⟨fun c0 => absurd ((z_eq (by have := hq.2.1; unfold inR; omega) ⟨by decide, by decide⟩).mp c0) (by have := hq.2.1; omega), ?_⟩
            intro w9 e9
            rw [zrem hq.1 hq.2.1] at e9
            subst e9
            have zb := zrem_b hq.1.1 hq.2.1.1
            have hq := hq.2.2 _ zb.1 zb.2.1 zb.2.2
            generalize x15 % (4 : Int) = z131 at hq ⊢
            try simp only [z_m1, z_0, z_1, z_2, z_3, z_4, z_5, z_6, z_8, z_9, z_10, z_12, z_16, z_30, z_31, z_99, z_300, z_500, z_600, z_20000, z_m13, z_m11, z_7, z_11, z_13, z_15, z_18, z_40, z_80, z_100, z_120, z_150, z_179, z_210, z_999, z_104021, z_268435455, z_3070017, z_nL, zadd, zsub, zmul, zneg, zap]
            have rx := hq.1
            have hq := hq.2
            refine ⟨fun c => ?_, fun c => ?_⟩
            · have hq := hq.1 (fun h => c ((z_eq rx ⟨by decide, by decide⟩).mpr h))
              exact hq
            · have hq := hq.2 ((z_eq rx ⟨by decide, by decide⟩).mp c)
              obtain ⟨hkb, r132, hr132, hq⟩ := hq
              refine ⟨hkb, zI r132, tn_X4_offers hh121 hs122 hr123 x19 r132 hr132, ?_⟩
              try simp only [z_m1, z_0, z_1, z_2, z_3, z_4, z_5, z_6, z_8, z_9, z_10, z_12, z_16, z_30, z_31, z_99, z_300, z_500, z_600, z_20000, z_m13, z_m11, z_7, z_11, z_13, z_15, z_18, z_40, z_80, z_100, z_120, z_150, z_179, z_210, z_999, z_104021, z_268435455, z_3070017, z_nL, zadd, zsub, zmul, zneg, zap]
              exact hq)
  have hq := hq (by
    intro k hh hs hr ha x9 x10 x11 x12 x13 x14 x15 x17 x19 x20 x22 x23 x25 x26 hq
    refine k1358 k (zS hh) (zS hs) (zS hr) (zS ha) (zI x9) (zI x10) (zI x11) (zI x12) (zI x13) (zI x14) (zI x15) (zI x17) (zI x19) (zI x20) (zI x22) (zI x23) (zI x25) (zI x26) ?_
    try simp only [z_m1, z_0, z_1, z_2, z_3, z_4, z_5, z_6, z_8, z_9, z_10, z_12, z_16, z_30, z_31, z_99, z_300, z_500, z_600, z_20000, z_m13, z_m11, z_7, z_11, z_13, z_15, z_18, z_40, z_80, z_100, z_120, z_150, z_179, z_210, z_999, z_104021, z_268435455, z_3070017, z_nL, zadd, zsub, zmul, zneg, zap]
    have rx := hq.1
    have hq := hq.2
    have ry := hq.1
    have hq := hq.2
    refine ⟨fun c => ?_, fun c => ?_⟩
    · have hq := hq.1 ((z_le ry rx).mp c)
      exact hq
    · have hq := hq.2 (fun h => c ((z_le ry rx).mpr h))
      have rx := hq.1
      have hq := hq.2
      refine ⟨fun c => ?_, fun c => ?_⟩
      · have hq := hq.1 ((z_eq rx ⟨by decide, by decide⟩).mp c)
        exact hq
      · have hq := hq.2 (fun h => c ((z_eq rx ⟨by decide, by decide⟩).mpr h))
        obtain ⟨hkb, r141, hr141, hq⟩ := hq
        refine ⟨hkb, zI r141, tn_X4_offerAt hh hs hr x19 x26 r141 hr141, ?_⟩
        try simp only [z_m1, z_0, z_1, z_2, z_3, z_4, z_5, z_6, z_8, z_9, z_10, z_12, z_16, z_30, z_31, z_99, z_300, z_500, z_600, z_20000, z_m13, z_m11, z_7, z_11, z_13, z_15, z_18, z_40, z_80, z_100, z_120, z_150, z_179, z_210, z_999, z_104021, z_268435455, z_3070017, z_nL, zadd, zsub, zmul, zneg, zap]
        have rx := hq.1
        have hq := hq.2
        have ry := hq.1
        have hq := hq.2
        refine ⟨fun c => ?_, fun c => ?_⟩
        · have hq := hq.1 ((z_eq rx ry).mp c)
          exact hq
        · have hq := hq.2 (fun h => c ((z_eq rx ry).mpr h))
          exact hq)
  have hq := hq (by
    intro k hh hs hr ha x9 x10 x11 x12 x13 x14 x15 x17 x22 x23 hq
    refine k1461 k (zS hh) (zS hs) (zS hr) (zS ha) (zI x9) (zI x10) (zI x11) (zI x12) (zI x13) (zI x14) (zI x15) (zI x17) (zI x22) (zI x23) ?_
    try simp only [z_m1, z_0, z_1, z_2, z_3, z_4, z_5, z_6, z_8, z_9, z_10, z_12, z_16, z_30, z_31, z_99, z_300, z_500, z_600, z_20000, z_m13, z_m11, z_7, z_11, z_13, z_15, z_18, z_40, z_80, z_100, z_120, z_150, z_179, z_210, z_999, z_104021, z_268435455, z_3070017, z_nL, zadd, zsub, zmul, zneg, zap]
    have rx := hq.1
    have hq := hq.2
    refine ⟨fun c => ?_, fun c => ?_⟩
    · have hq := hq.1 ((z_eq rx ⟨by decide, by decide⟩).mp c)
      exact hq
    · have hq := hq.2 (fun h => c ((z_eq rx ⟨by decide, by decide⟩).mpr h))
      obtain ⟨hkb, r140, hr140, hq⟩ := hq
      refine ⟨hkb, zI r140, t_L_pieces hh hs hr ha x12 x22 r140 hr140, ?_⟩
      try simp only [z_m1, z_0, z_1, z_2, z_3, z_4, z_5, z_6, z_8, z_9, z_10, z_12, z_16, z_30, z_31, z_99, z_300, z_500, z_600, z_20000, z_m13, z_m11, z_7, z_11, z_13, z_15, z_18, z_40, z_80, z_100, z_120, z_150, z_179, z_210, z_999, z_104021, z_268435455, z_3070017, z_nL, zadd, zsub, zmul, zneg, zap]
      have rx := hq.1
      have hq := hq.2
      have ry := hq.1
      have hq := hq.2
      refine ⟨fun c => ?_, fun c => ?_⟩
      · have hq := hq.1 (fun h => c ((z_eq rx ry).mpr h))
        exact hq
      · have hq := hq.2 ((z_eq rx ry).mp c)
        exact hq)
  have hq := hq (by
    intro k hh hs hr ha x9 x10 x11 x12 x13 x14 x15 x17 x18 x19 x21 x22 hq
    refine k1489 k (zS hh) (zS hs) (zS hr) (zS ha) (zI x9) (zI x10) (zI x11) (zI x12) (zI x13) (zI x14) (zI x15) (zI x17) (zI x18) (zI x19) (zI x21) (zI x22) ?_
    try simp only [z_m1, z_0, z_1, z_2, z_3, z_4, z_5, z_6, z_8, z_9, z_10, z_12, z_16, z_30, z_31, z_99, z_300, z_500, z_600, z_20000, z_m13, z_m11, z_7, z_11, z_13, z_15, z_18, z_40, z_80, z_100, z_120, z_150, z_179, z_210, z_999, z_104021, z_268435455, z_3070017, z_nL, zadd, zsub, zmul, zneg, zap]
    have rx := hq.1
    have hq := hq.2
    refine ⟨fun c => ?_, fun c => ?_⟩
    · have hq := hq.1 ((z_le ⟨by decide, by decide⟩ rx).mp c)
      exact hq
    · have hq := hq.2 (fun h => c ((z_le ⟨by decide, by decide⟩ rx).mpr h))
      have rx := hq.1
      have hq := hq.2
      refine ⟨fun c => ?_, fun c => ?_⟩
      · have hq := hq.1 ((z_le rx ⟨by decide, by decide⟩).mp c)
        exact hq
      · have hq := hq.2 (fun h => c ((z_le rx ⟨by decide, by decide⟩).mpr h))
        intro w9 e9
        rw [zshr hq.1 hq.2.1] at e9
        subst e9
        have zb := zshr_b (y := (8 : Int)) hq.1.1
        have hq := hq.2.2 _ zb.1 zb.2
        generalize ishr x17 (8 : Int) = z136 at hq ⊢
        try simp only [z_m1, z_0, z_1, z_2, z_3, z_4, z_5, z_6, z_8, z_9, z_10, z_12, z_16, z_30, z_31, z_99, z_300, z_500, z_600, z_20000, z_m13, z_m11, z_7, z_11, z_13, z_15, z_18, z_40, z_80, z_100, z_120, z_150, z_179, z_210, z_999, z_104021, z_268435455, z_3070017, z_nL, zadd, zsub, zmul, zneg, zap]
        intro w9 e9
        have zb : 0 ≤ w9.toInt ∧ w9.toInt ≤ 1 := by rw [e9]; exact zand_b _ 1 (by decide)
        clear e9
        rw [← zI_of w9]
        have hq := hq w9.toInt zb.1 zb.2
        generalize w9.toInt = z137 at hq ⊢
        try simp only [z_m1, z_0, z_1, z_2, z_3, z_4, z_5, z_6, z_8, z_9, z_10, z_12, z_16, z_30, z_31, z_99, z_300, z_500, z_600, z_20000, z_m13, z_m11, z_7, z_11, z_13, z_15, z_18, z_40, z_80, z_100, z_120, z_150, z_179, z_210, z_999, z_104021, z_268435455, z_3070017, z_nL, zadd, zsub, zmul, zneg, zap]
        have rx := hq.1
        have hq := hq.2
        refine ⟨fun c => ?_, fun c => ?_⟩
        · have hq := hq.1 (fun h => c ((z_eq rx ⟨by decide, by decide⟩).mpr h))
          intro w9 e9
          rw [zshr hq.1 hq.2.1] at e9
          subst e9
          have zb := zshr_b (y := (9 : Int)) hq.1.1
          have hq := hq.2.2 _ zb.1 zb.2
          generalize ishr x17 (9 : Int) = z138 at hq ⊢
          try simp only [z_m1, z_0, z_1, z_2, z_3, z_4, z_5, z_6, z_8, z_9, z_10, z_12, z_16, z_30, z_31, z_99, z_300, z_500, z_600, z_20000, z_m13, z_m11, z_7, z_11, z_13, z_15, z_18, z_40, z_80, z_100, z_120, z_150, z_179, z_210, z_999, z_104021, z_268435455, z_3070017, z_nL, zadd, zsub, zmul, zneg, zap]
          refine ⟨fun c0 => absurd ((z_eq (by have := hq.2.1; unfold inR; omega) ⟨by decide, by decide⟩).mp c0) (by have := hq.2.1; omega), ?_⟩
          intro w9 e9
          rw [zrem hq.1 hq.2.1] at e9
          subst e9
          have zb := zrem_b hq.1.1 hq.2.1.1
          have hq := hq.2.2 _ zb.1 zb.2.1 zb.2.2
          generalize z138 % (4 : Int) = z139 at hq ⊢
          try simp only [z_m1, z_0, z_1, z_2, z_3, z_4, z_5, z_6, z_8, z_9, z_10, z_12, z_16, z_30, z_31, z_99, z_300, z_500, z_600, z_20000, z_m13, z_m11, z_7, z_11, z_13, z_15, z_18, z_40, z_80, z_100, z_120, z_150, z_179, z_210, z_999, z_104021, z_268435455, z_3070017, z_nL, zadd, zsub, zmul, zneg, zap]
          exact hq
        · have hq := hq.2 ((z_eq rx ⟨by decide, by decide⟩).mp c)
          exact hq)
  have hq := hq (by
    intro k hh hs hr ha x9 x10 x11 x12 x14 x15 x17 x19 x22 t0 hq
    refine k1522 k (zS hh) (zS hs) (zS hr) (zS ha) (zI x9) (zI x10) (zI x11) (zI x12) (zI x14) (zI x15) (zI x17) (zI x19) (zI x22) (zI t0) ?_
    try simp only [z_m1, z_0, z_1, z_2, z_3, z_4, z_5, z_6, z_8, z_9, z_10, z_12, z_16, z_30, z_31, z_99, z_300, z_500, z_600, z_20000, z_m13, z_m11, z_7, z_11, z_13, z_15, z_18, z_40, z_80, z_100, z_120, z_150, z_179, z_210, z_999, z_104021, z_268435455, z_3070017, z_nL, zadd, zsub, zmul, zneg, zap]
    obtain ⟨hkb, r156, hr156, hq⟩ := hq
    refine ⟨hkb, zI r156, tn_X4_copyOf hh hs hr x19 r156 hr156, ?_⟩
    try simp only [z_m1, z_0, z_1, z_2, z_3, z_4, z_5, z_6, z_8, z_9, z_10, z_12, z_16, z_30, z_31, z_99, z_300, z_500, z_600, z_20000, z_m13, z_m11, z_7, z_11, z_13, z_15, z_18, z_40, z_80, z_100, z_120, z_150, z_179, z_210, z_999, z_104021, z_268435455, z_3070017, z_nL, zadd, zsub, zmul, zneg, zap]
    obtain ⟨hkb, r157, hr157, hq⟩ := hq
    refine ⟨hkb, zI r157, t_L_pieces hh hs hr ha x12 x22 r157 hr157, ?_⟩
    try simp only [z_m1, z_0, z_1, z_2, z_3, z_4, z_5, z_6, z_8, z_9, z_10, z_12, z_16, z_30, z_31, z_99, z_300, z_500, z_600, z_20000, z_m13, z_m11, z_7, z_11, z_13, z_15, z_18, z_40, z_80, z_100, z_120, z_150, z_179, z_210, z_999, z_104021, z_268435455, z_3070017, z_nL, zadd, zsub, zmul, zneg, zap]
    have rx := hq.1
    have hq := hq.2
    refine ⟨fun c => ?_, fun c => ?_⟩
    · have hq := hq.1 ((z_le ⟨by decide, by decide⟩ rx).mp c)
      obtain ⟨hkb, r158, hr158, hq⟩ := hq
      refine ⟨hkb, zI r158, tn_X4_pieces hh hs hr r156 x22 r158 hr158, ?_⟩
      try simp only [z_m1, z_0, z_1, z_2, z_3, z_4, z_5, z_6, z_8, z_9, z_10, z_12, z_16, z_30, z_31, z_99, z_300, z_500, z_600, z_20000, z_m13, z_m11, z_7, z_11, z_13, z_15, z_18, z_40, z_80, z_100, z_120, z_150, z_179, z_210, z_999, z_104021, z_268435455, z_3070017, z_nL, zadd, zsub, zmul, zneg, zap]
      exact hq
    · have hq := hq.2 (fun h => c ((z_le ⟨by decide, by decide⟩ rx).mpr h))
      exact hq)
  have hq := hq (by
    intro k hh hs hr ha x9 x10 x11 x12 x14 x15 x17 x19 x21 x22 x23 x24 t0 hq
    refine k1559 k (zS hh) (zS hs) (zS hr) (zS ha) (zI x9) (zI x10) (zI x11) (zI x12) (zI x14) (zI x15) (zI x17) (zI x19) (zI x21) (zI x22) (zI x23) (zI x24) (zI t0) ?_
    try simp only [z_m1, z_0, z_1, z_2, z_3, z_4, z_5, z_6, z_8, z_9, z_10, z_12, z_16, z_30, z_31, z_99, z_300, z_500, z_600, z_20000, z_m13, z_m11, z_7, z_11, z_13, z_15, z_18, z_40, z_80, z_100, z_120, z_150, z_179, z_210, z_999, z_104021, z_268435455, z_3070017, z_nL, zadd, zsub, zmul, zneg, zap]
    refine ⟨hq.1, tm_L_on hh hs hr (3 : Int) x19 x22 x23 _ _ (fun r159 hh160 hs161 hr162 hq => ?_) hq.2⟩
    try simp only [z_m1, z_0, z_1, z_2, z_3, z_4, z_5, z_6, z_8, z_9, z_10, z_12, z_16, z_30, z_31, z_99, z_300, z_500, z_600, z_20000, z_m13, z_m11, z_7, z_11, z_13, z_15, z_18, z_40, z_80, z_100, z_120, z_150, z_179, z_210, z_999, z_104021, z_268435455, z_3070017, z_nL, zadd, zsub, zmul, zneg, zap]
    have rx := hq.1
    have hq := hq.2
    refine ⟨fun c => ?_, fun c => ?_⟩
    · have hq := hq.1 (fun h => c ((z_eq rx ⟨by decide, by decide⟩).mpr h))
      have rx := hq.1
      have hq := hq.2
      refine ⟨fun c => ?_, fun c => ?_⟩
      · have hq := hq.1 ((z_lt rx ⟨by decide, by decide⟩).mp c)
        exact hq
      · have hq := hq.2 (fun h => c ((z_lt rx ⟨by decide, by decide⟩).mpr h))
        have rx := hq.1
        have hq := hq.2
        refine ⟨fun c => ?_, fun c => ?_⟩
        · have hq := hq.1 ((z_lt rx ⟨by decide, by decide⟩).mp c)
          exact hq
        · have hq := hq.2 (fun h => c ((z_lt rx ⟨by decide, by decide⟩).mpr h))
          obtain ⟨hkb, r163, hr163, hq⟩ := hq
          refine ⟨hkb, zI r163, tn_X4_copyOf hh160 hs161 hr162 x19 r163 hr163, ?_⟩
          try simp only [z_m1, z_0, z_1, z_2, z_3, z_4, z_5, z_6, z_8, z_9, z_10, z_12, z_16, z_30, z_31, z_99, z_300, z_500, z_600, z_20000, z_m13, z_m11, z_7, z_11, z_13, z_15, z_18, z_40, z_80, z_100, z_120, z_150, z_179, z_210, z_999, z_104021, z_268435455, z_3070017, z_nL, zadd, zsub, zmul, zneg, zap]
          have rx := hq.1
          have hq := hq.2
          refine ⟨fun c => ?_, fun c => ?_⟩
          · have hq := hq.1 (fun h => c ((z_eq rx ⟨by decide, by decide⟩).mpr h))
            exact hq
          · have hq := hq.2 ((z_eq rx ⟨by decide, by decide⟩).mp c)
            obtain ⟨hkb, r164, hr164, hq⟩ := hq
            refine ⟨hkb, zI r164, tn_X4_stateOf hh160 hs161 hr162 x21 r164 hr164, ?_⟩
            try simp only [z_m1, z_0, z_1, z_2, z_3, z_4, z_5, z_6, z_8, z_9, z_10, z_12, z_16, z_30, z_31, z_99, z_300, z_500, z_600, z_20000, z_m13, z_m11, z_7, z_11, z_13, z_15, z_18, z_40, z_80, z_100, z_120, z_150, z_179, z_210, z_999, z_104021, z_268435455, z_3070017, z_nL, zadd, zsub, zmul, zneg, zap]
            have rx := hq.1
            have hq := hq.2
            refine ⟨fun c => ?_, fun c => ?_⟩
            · have hq := hq.1 (fun h => c ((z_eq rx ⟨by decide, by decide⟩).mpr h))
              exact hq
            · have hq := hq.2 ((z_eq rx ⟨by decide, by decide⟩).mp c)
              obtain ⟨hkb, r165, hr165, hq⟩ := hq
              refine ⟨hkb, zI r165, t_L_pieces hh160 hs161 hr162 ha x12 x22 r165 hr165, ?_⟩
              try simp only [z_m1, z_0, z_1, z_2, z_3, z_4, z_5, z_6, z_8, z_9, z_10, z_12, z_16, z_30, z_31, z_99, z_300, z_500, z_600, z_20000, z_m13, z_m11, z_7, z_11, z_13, z_15, z_18, z_40, z_80, z_100, z_120, z_150, z_179, z_210, z_999, z_104021, z_268435455, z_3070017, z_nL, zadd, zsub, zmul, zneg, zap]
              have rx := hq.1
              have hq := hq.2
              have ry := hq.1
              have hq := hq.2
              refine ⟨fun c => ?_, fun c => ?_⟩
              · have hq := hq.1 (fun h => c ((z_eq rx ry).mpr h))
                exact hq
              · have hq := hq.2 ((z_eq rx ry).mp c)
                obtain ⟨hkb, r166, hr166, hq⟩ := hq
                refine ⟨hkb, zI r166, tn_X4_pieces hh160 hs161 hr162 x21 x22 r166 hr166, ?_⟩
                try simp only [z_m1, z_0, z_1, z_2, z_3, z_4, z_5, z_6, z_8, z_9, z_10, z_12, z_16, z_30, z_31, z_99, z_300, z_500, z_600, z_20000, z_m13, z_m11, z_7, z_11, z_13, z_15, z_18, z_40, z_80, z_100, z_120, z_150, z_179, z_210, z_999, z_104021, z_268435455, z_3070017, z_nL, zadd, zsub, zmul, zneg, zap]
                have rx := hq.1
                have hq := hq.2
                have ry := hq.1
                have hq := hq.2
                refine ⟨fun c => ?_, fun c => ?_⟩
                · have hq := hq.1 ((z_lt ry rx).mp c)
                  exact hq
                · have hq := hq.2 (fun h => c ((z_lt ry rx).mpr h))
                  exact hq
    · have hq := hq.2 ((z_eq rx ⟨by decide, by decide⟩).mp c)
      have rx := hq.1
      have hq := hq.2
      refine ⟨fun c => ?_, fun c => ?_⟩
      · have hq := hq.1 ((z_lt rx ⟨by decide, by decide⟩).mp c)
        exact hq
      · have hq := hq.2 (fun h => c ((z_lt rx ⟨by decide, by decide⟩).mpr h))
        have rx := hq.1
        have hq := hq.2
        have ry := hq.1
        have hq := hq.2
        refine ⟨fun c => ?_, fun c => ?_⟩
        · have hq := hq.1 ((z_le ry rx).mp c)
          exact hq
        · have hq := hq.2 (fun h => c ((z_le ry rx).mpr h))
          exact hq)
  have hq := hq (by
    intro k hh hs hr ha x9 x10 x11 x12 x13 x14 x15 x17 x18 x21 x22 hq
    refine k1672 k (zS hh) (zS hs) (zS hr) (zS ha) (zI x9) (zI x10) (zI x11) (zI x12) (zI x13) (zI x14) (zI x15) (zI x17) (zI x18) (zI x21) (zI x22) ?_
    try simp only [z_m1, z_0, z_1, z_2, z_3, z_4, z_5, z_6, z_8, z_9, z_10, z_12, z_16, z_30, z_31, z_99, z_300, z_500, z_600, z_20000, z_m13, z_m11, z_7, z_11, z_13, z_15, z_18, z_40, z_80, z_100, z_120, z_150, z_179, z_210, z_999, z_104021, z_268435455, z_3070017, z_nL, zadd, zsub, zmul, zneg, zap]
    have rx := hq.1
    have hq := hq.2
    refine ⟨fun c => ?_, fun c => ?_⟩
    · have hq := hq.1 (fun h => c ((z_eq rx ⟨by decide, by decide⟩).mpr h))
      exact hq
    · have hq := hq.2 ((z_eq rx ⟨by decide, by decide⟩).mp c)
      have rx := hq.1
      have hq := hq.2
      refine ⟨fun c => ?_, fun c => ?_⟩
      · have hq := hq.1 ((z_le rx ⟨by decide, by decide⟩).mp c)
        exact hq
      · have hq := hq.2 (fun h => c ((z_le rx ⟨by decide, by decide⟩).mpr h))
        intro w9 e9
        rw [zshr hq.1 hq.2.1] at e9
        subst e9
        have zb := zshr_b (y := (8 : Int)) hq.1.1
        have hq := hq.2.2 _ zb.1 zb.2
        generalize ishr x17 (8 : Int) = z148 at hq ⊢
        try simp only [z_m1, z_0, z_1, z_2, z_3, z_4, z_5, z_6, z_8, z_9, z_10, z_12, z_16, z_30, z_31, z_99, z_300, z_500, z_600, z_20000, z_m13, z_m11, z_7, z_11, z_13, z_15, z_18, z_40, z_80, z_100, z_120, z_150, z_179, z_210, z_999, z_104021, z_268435455, z_3070017, z_nL, zadd, zsub, zmul, zneg, zap]
        refine ⟨fun c0 => absurd ((z_eq (by have := hq.2.1; unfold inR; omega) ⟨by decide, by decide⟩).mp c0) (by have := hq.2.1; omega), ?_⟩
        intro w9 e9
        rw [zrem hq.1 hq.2.1] at e9
        subst e9
        have zb := zrem_b hq.1.1 hq.2.1.1
        have hq := hq.2.2 _ zb.1 zb.2.1 zb.2.2
        generalize z148 % (3 : Int) = z149 at hq ⊢
        try simp only [z_m1, z_0, z_1, z_2, z_3, z_4, z_5, z_6, z_8, z_9, z_10, z_12, z_16, z_30, z_31, z_99, z_300, z_500, z_600, z_20000, z_m13, z_m11, z_7, z_11, z_13, z_15, z_18, z_40, z_80, z_100, z_120, z_150, z_179, z_210, z_999, z_104021, z_268435455, z_3070017, z_nL, zadd, zsub, zmul, zneg, zap]
        obtain ⟨hkb, r150, hr150, hq⟩ := hq
        refine ⟨hkb, zI r150, tn_X4_pieces hh hs hr x21 x22 r150 hr150, ?_⟩
        try simp only [z_m1, z_0, z_1, z_2, z_3, z_4, z_5, z_6, z_8, z_9, z_10, z_12, z_16, z_30, z_31, z_99, z_300, z_500, z_600, z_20000, z_m13, z_m11, z_7, z_11, z_13, z_15, z_18, z_40, z_80, z_100, z_120, z_150, z_179, z_210, z_999, z_104021, z_268435455, z_3070017, z_nL, zadd, zsub, zmul, zneg, zap]
        refine ⟨hq.1, tm_L_on hh hs hr (4 : Int) x21 x22 ((1 : Int) + z149) _ _ (fun r151 hh152 hs153 hr154 hq => ?_) hq.2⟩
        try simp only [z_m1, z_0, z_1, z_2, z_3, z_4, z_5, z_6, z_8, z_9, z_10, z_12, z_16, z_30, z_31, z_99, z_300, z_500, z_600, z_20000, z_m13, z_m11, z_7, z_11, z_13, z_15, z_18, z_40, z_80, z_100, z_120, z_150, z_179, z_210, z_999, z_104021, z_268435455, z_3070017, z_nL, zadd, zsub, zmul, zneg, zap]
        obtain ⟨hkb, r155, hr155, hq⟩ := hq
        refine ⟨hkb, zI r155, tn_X4_stateOf hh152 hs153 hr154 x21 r155 hr155, ?_⟩
        try simp only [z_m1, z_0, z_1, z_2, z_3, z_4, z_5, z_6, z_8, z_9, z_10, z_12, z_16, z_30, z_31, z_99, z_300, z_500, z_600, z_20000, z_m13, z_m11, z_7, z_11, z_13, z_15, z_18, z_40, z_80, z_100, z_120, z_150, z_179, z_210, z_999, z_104021, z_268435455, z_3070017, z_nL, zadd, zsub, zmul, zneg, zap]
        have rx := hq.1
        have hq := hq.2
        refine ⟨fun c => ?_, fun c => ?_⟩
        · have hq := hq.1 (fun h => c ((z_eq rx ⟨by decide, by decide⟩).mpr h))
          have rx := hq.1
          have hq := hq.2
          refine ⟨fun c => ?_, fun c => ?_⟩
          · have hq := hq.1 (fun h => c ((z_eq rx ⟨by decide, by decide⟩).mpr h))
            exact hq
          · have hq := hq.2 ((z_eq rx ⟨by decide, by decide⟩).mp c)
            exact hq
        · have hq := hq.2 ((z_eq rx ⟨by decide, by decide⟩).mp c)
          refine ⟨zin hq.1.1 hq.1.2 (by decide), ?_⟩
          try simp only [zcl hq.1.1 (Int.lt_trans hq.1.2 (by decide))]
          have hq := hq.2
          try simp only [z_m1, z_0, z_1, z_2, z_3, z_4, z_5, z_6, z_8, z_9, z_10, z_12, z_16, z_30, z_31, z_99, z_300, z_500, z_600, z_20000, z_m13, z_m11, z_7, z_11, z_13, z_15, z_18, z_40, z_80, z_100, z_120, z_150, z_179, z_210, z_999, z_104021, z_268435455, z_3070017, z_nL, zadd, zsub, zmul, zneg, zap]
          refine ⟨zin hq.1.1 hq.1.2 (by decide), ?_⟩
          try simp only [zcl hq.1.1 (Int.lt_trans hq.1.2 (by decide))]
          have hq := hq.2
          try simp only [z_m1, z_0, z_1, z_2, z_3, z_4, z_5, z_6, z_8, z_9, z_10, z_12, z_16, z_30, z_31, z_99, z_300, z_500, z_600, z_20000, z_m13, z_m11, z_7, z_11, z_13, z_15, z_18, z_40, z_80, z_100, z_120, z_150, z_179, z_210, z_999, z_104021, z_268435455, z_3070017, z_nL, zadd, zsub, zmul, zneg, zap]
          have rx := hq.1
          have hq := hq.2
          have ry := hq.1
          have hq := hq.2
          refine ⟨fun c => ?_, fun c => ?_⟩
          · have hq := hq.1 ((z_lt ry rx).mp c)
            have rx := hq.1
            have hq := hq.2
            refine ⟨fun c => ?_, fun c => ?_⟩
            · have hq := hq.1 (fun h => c ((z_eq rx ⟨by decide, by decide⟩).mpr h))
              exact hq
            · have hq := hq.2 ((z_eq rx ⟨by decide, by decide⟩).mp c)
              exact hq
          · have hq := hq.2 (fun h => c ((z_lt ry rx).mpr h))
            have rx := hq.1
            have hq := hq.2
            have ry := hq.1
            have hq := hq.2
            refine ⟨fun c => ?_, fun c => ?_⟩
            · have hq := hq.1 (fun h => c ((z_eq rx ry).mpr h))
              exact hq
            · have hq := hq.2 ((z_eq rx ry).mp c)
              exact hq)
  have hq := hq (by
    intro k hh hs hr ha x9 x10 x11 x12 x13 x14 x15 x17 hq
    refine k1770 k (zS hh) (zS hs) (zS hr) (zS ha) (zI x9) (zI x10) (zI x11) (zI x12) (zI x13) (zI x14) (zI x15) (zI x17) ?_
    try simp only [z_m1, z_0, z_1, z_2, z_3, z_4, z_5, z_6, z_8, z_9, z_10, z_12, z_16, z_30, z_31, z_99, z_300, z_500, z_600, z_20000, z_m13, z_m11, z_7, z_11, z_13, z_15, z_18, z_40, z_80, z_100, z_120, z_150, z_179, z_210, z_999, z_104021, z_268435455, z_3070017, z_nL, zadd, zsub, zmul, zneg, zap]
    have rx := hq.1
    have hq := hq.2
    refine ⟨fun c => ?_, fun c => ?_⟩
    · have hq := hq.1 ((z_eq rx ⟨by decide, by decide⟩).mp c)
      exact hq
    · have hq := hq.2 (fun h => c ((z_eq rx ⟨by decide, by decide⟩).mpr h))
      refine ⟨fun c0 => absurd ((z_eq (by have := hq.2.1; unfold inR; omega) ⟨by decide, by decide⟩).mp c0) (by have := hq.2.1; omega), ?_⟩
      intro w9 e9
      rw [zrem hq.1 hq.2.1] at e9
      subst e9
      have zb := zrem_b hq.1.1 hq.2.1.1
      have hq := hq.2.2 _ zb.1 zb.2.1 zb.2.2
      generalize x15 % (3 : Int) = z44 at hq ⊢
      try simp only [z_m1, z_0, z_1, z_2, z_3, z_4, z_5, z_6, z_8, z_9, z_10, z_12, z_16, z_30, z_31, z_99, z_300, z_500, z_600, z_20000, z_m13, z_m11, z_7, z_11, z_13, z_15, z_18, z_40, z_80, z_100, z_120, z_150, z_179, z_210, z_999, z_104021, z_268435455, z_3070017, z_nL, zadd, zsub, zmul, zneg, zap]
      have rx := hq.1
      have hq := hq.2
      refine ⟨fun c => ?_, fun c => ?_⟩
      · have hq := hq.1 ((z_lt ⟨by decide, by decide⟩ rx).mp c)
        exact hq
      · have hq := hq.2 (fun h => c ((z_lt ⟨by decide, by decide⟩ rx).mpr h))
        refine ⟨hq.1, tm_L_areTables hh hs hr ha x10 _ _ (fun r45 hh46 hs47 hr48 hq => ?_) hq.2⟩
        try simp only [z_m1, z_0, z_1, z_2, z_3, z_4, z_5, z_6, z_8, z_9, z_10, z_12, z_16, z_30, z_31, z_99, z_300, z_500, z_600, z_20000, z_m13, z_m11, z_7, z_11, z_13, z_15, z_18, z_40, z_80, z_100, z_120, z_150, z_179, z_210, z_999, z_104021, z_268435455, z_3070017, z_nL, zadd, zsub, zmul, zneg, zap]
        have rx := hq.1
        have hq := hq.2
        refine ⟨fun c => ?_, fun c => ?_⟩
        · have hq := hq.1 ((z_eq rx ⟨by decide, by decide⟩).mp c)
          exact hq
        · have hq := hq.2 (fun h => c ((z_eq rx ⟨by decide, by decide⟩).mpr h))
          exact hq)
  have hq := hq (by
    intro k hh hs hr ha x9 x10 x11 x12 x14 x15 x17 hq
    refine k1795 k (zS hh) (zS hs) (zS hr) (zS ha) (zI x9) (zI x10) (zI x11) (zI x12) (zI x14) (zI x15) (zI x17) ?_
    try simp only [z_m1, z_0, z_1, z_2, z_3, z_4, z_5, z_6, z_8, z_9, z_10, z_12, z_16, z_30, z_31, z_99, z_300, z_500, z_600, z_20000, z_m13, z_m11, z_7, z_11, z_13, z_15, z_18, z_40, z_80, z_100, z_120, z_150, z_179, z_210, z_999, z_104021, z_268435455, z_3070017, z_nL, zadd, zsub, zmul, zneg, zap]
    refine ⟨fun c0 => absurd ((z_eq (by have := hq.2.1; unfold inR; omega) ⟨by decide, by decide⟩).mp c0) (by have := hq.2.1; omega), ?_⟩
    intro w9 e9
    rw [zrem hq.1 hq.2.1] at e9
    subst e9
    have zb := zrem_b hq.1.1 hq.2.1.1
    have hq := hq.2.2 _ zb.1 zb.2.1 zb.2.2
    generalize x15 % (3 : Int) = z53 at hq ⊢
    try simp only [z_m1, z_0, z_1, z_2, z_3, z_4, z_5, z_6, z_8, z_9, z_10, z_12, z_16, z_30, z_31, z_99, z_300, z_500, z_600, z_20000, z_m13, z_m11, z_7, z_11, z_13, z_15, z_18, z_40, z_80, z_100, z_120, z_150, z_179, z_210, z_999, z_104021, z_268435455, z_3070017, z_nL, zadd, zsub, zmul, zneg, zap]
    have rx := hq.1
    have hq := hq.2
    refine ⟨fun c => ?_, fun c => ?_⟩
    · have hq := hq.1 (fun h => c ((z_eq rx ⟨by decide, by decide⟩).mpr h))
      exact hq
    · have hq := hq.2 ((z_eq rx ⟨by decide, by decide⟩).mp c)
      obtain ⟨hkb, r54, hr54, hq⟩ := hq
      refine ⟨hkb, zI r54, t_L_areCopies hh hs hr ha x12 x10 r54 hr54, ?_⟩
      try simp only [z_m1, z_0, z_1, z_2, z_3, z_4, z_5, z_6, z_8, z_9, z_10, z_12, z_16, z_30, z_31, z_99, z_300, z_500, z_600, z_20000, z_m13, z_m11, z_7, z_11, z_13, z_15, z_18, z_40, z_80, z_100, z_120, z_150, z_179, z_210, z_999, z_104021, z_268435455, z_3070017, z_nL, zadd, zsub, zmul, zneg, zap]
      have rx := hq.1
      have hq := hq.2
      refine ⟨fun c => ?_, fun c => ?_⟩
      · have hq := hq.1 ((z_eq rx ⟨by decide, by decide⟩).mp c)
        exact hq
      · have hq := hq.2 (fun h => c ((z_eq rx ⟨by decide, by decide⟩).mpr h))
        exact hq)
  have hq := hq (by
    intro k hh hs hr ha x9 x10 x11 x12 x14 x15 x17 hq
    refine k1818 k (zS hh) (zS hs) (zS hr) (zS ha) (zI x9) (zI x10) (zI x11) (zI x12) (zI x14) (zI x15) (zI x17) ?_
    try simp only [z_m1, z_0, z_1, z_2, z_3, z_4, z_5, z_6, z_8, z_9, z_10, z_12, z_16, z_30, z_31, z_99, z_300, z_500, z_600, z_20000, z_m13, z_m11, z_7, z_11, z_13, z_15, z_18, z_40, z_80, z_100, z_120, z_150, z_179, z_210, z_999, z_104021, z_268435455, z_3070017, z_nL, zadd, zsub, zmul, zneg, zap]
    refine ⟨fun c0 => absurd ((z_eq (by have := hq.2.1; unfold inR; omega) ⟨by decide, by decide⟩).mp c0) (by have := hq.2.1; omega), ?_⟩
    intro w9 e9
    rw [zrem hq.1 hq.2.1] at e9
    subst e9
    have zb := zrem_b hq.1.1 hq.2.1.1
    have hq := hq.2.2 _ zb.1 zb.2.1 zb.2.2
    generalize x17 % (12 : Int) = z81 at hq ⊢
    try simp only [z_m1, z_0, z_1, z_2, z_3, z_4, z_5, z_6, z_8, z_9, z_10, z_12, z_16, z_30, z_31, z_99, z_300, z_500, z_600, z_20000, z_m13, z_m11, z_7, z_11, z_13, z_15, z_18, z_40, z_80, z_100, z_120, z_150, z_179, z_210, z_999, z_104021, z_268435455, z_3070017, z_nL, zadd, zsub, zmul, zneg, zap]
    obtain ⟨hkb, r82, hr82, hq⟩ := hq
    refine ⟨hkb, zI r82, t_L_isWaste hh hs hr ha ((1 : Int) + z81) r82 hr82, ?_⟩
    try simp only [z_m1, z_0, z_1, z_2, z_3, z_4, z_5, z_6, z_8, z_9, z_10, z_12, z_16, z_30, z_31, z_99, z_300, z_500, z_600, z_20000, z_m13, z_m11, z_7, z_11, z_13, z_15, z_18, z_40, z_80, z_100, z_120, z_150, z_179, z_210, z_999, z_104021, z_268435455, z_3070017, z_nL, zadd, zsub, zmul, zneg, zap]
    have rx := hq.1
    have hq := hq.2
    refine ⟨fun c => ?_, fun c => ?_⟩
    · have hq := hq.1 ((z_eq rx ⟨by decide, by decide⟩).mp c)
      exact hq
    · have hq := hq.2 (fun h => c ((z_eq rx ⟨by decide, by decide⟩).mpr h))
      exact hq)
  have hq := hq (by
    intro k hh hs hr ha x9 x10 x11 x12 x14 x15 x17 hq
    refine k1836 k (zS hh) (zS hs) (zS hr) (zS ha) (zI x9) (zI x10) (zI x11) (zI x12) (zI x14) (zI x15) (zI x17) ?_
    try simp only [z_m1, z_0, z_1, z_2, z_3, z_4, z_5, z_6, z_8, z_9, z_10, z_12, z_16, z_30, z_31, z_99, z_300, z_500, z_600, z_20000, z_m13, z_m11, z_7, z_11, z_13, z_15, z_18, z_40, z_80, z_100, z_120, z_150, z_179, z_210, z_999, z_104021, z_268435455, z_3070017, z_nL, zadd, zsub, zmul, zneg, zap]
    exact hq)
  have hq := hq (by
    intro k hh hs hr ha x9 x10 x11 x12 x14 x15 x17 t0 hq
    refine k1837 k (zS hh) (zS hs) (zS hr) (zS ha) (zI x9) (zI x10) (zI x11) (zI x12) (zI x14) (zI x15) (zI x17) (zI t0) ?_
    try simp only [z_m1, z_0, z_1, z_2, z_3, z_4, z_5, z_6, z_8, z_9, z_10, z_12, z_16, z_30, z_31, z_99, z_300, z_500, z_600, z_20000, z_m13, z_m11, z_7, z_11, z_13, z_15, z_18, z_40, z_80, z_100, z_120, z_150, z_179, z_210, z_999, z_104021, z_268435455, z_3070017, z_nL, zadd, zsub, zmul, zneg, zap]
    have rx := hq.1
    have hq := hq.2
    refine ⟨fun c => ?_, fun c => ?_⟩
    · have hq := hq.1 ((z_eq rx ⟨by decide, by decide⟩).mp c)
      exact hq
    · have hq := hq.2 (fun h => c ((z_eq rx ⟨by decide, by decide⟩).mpr h))
      have rx := hq.1
      have hq := hq.2
      refine ⟨fun c => ?_, fun c => ?_⟩
      · have hq := hq.1 ((z_le rx ⟨by decide, by decide⟩).mp c)
        exact hq
      · have hq := hq.2 (fun h => c ((z_le rx ⟨by decide, by decide⟩).mpr h))
        intro w9 e9
        rw [zshr hq.1 hq.2.1] at e9
        subst e9
        have zb := zshr_b (y := (7 : Int)) hq.1.1
        have hq := hq.2.2 _ zb.1 zb.2
        generalize ishr x17 (7 : Int) = z71 at hq ⊢
        try simp only [z_m1, z_0, z_1, z_2, z_3, z_4, z_5, z_6, z_8, z_9, z_10, z_12, z_16, z_30, z_31, z_99, z_300, z_500, z_600, z_20000, z_m13, z_m11, z_7, z_11, z_13, z_15, z_18, z_40, z_80, z_100, z_120, z_150, z_179, z_210, z_999, z_104021, z_268435455, z_3070017, z_nL, zadd, zsub, zmul, zneg, zap]
        refine ⟨fun c0 => absurd ((z_eq (by have := hq.2.1; unfold inR; omega) ⟨by decide, by decide⟩).mp c0) (by have := hq.2.1; omega), ?_⟩
        intro w9 e9
        rw [zrem hq.1 hq.2.1] at e9
        subst e9
        have zb := zrem_b hq.1.1 hq.2.1.1
        have hq := hq.2.2 _ zb.1 zb.2.1 zb.2.2
        generalize z71 % x10 = z72 at hq ⊢
        try simp only [z_m1, z_0, z_1, z_2, z_3, z_4, z_5, z_6, z_8, z_9, z_10, z_12, z_16, z_30, z_31, z_99, z_300, z_500, z_600, z_20000, z_m13, z_m11, z_7, z_11, z_13, z_15, z_18, z_40, z_80, z_100, z_120, z_150, z_179, z_210, z_999, z_104021, z_268435455, z_3070017, z_nL, zadd, zsub, zmul, zneg, zap]
        refine ⟨hq.1, tm_L_on hh hs hr (5 : Int) z72 (0 : Int) (0 : Int) _ _ (fun r73 hh74 hs75 hr76 hq => ?_) hq.2⟩
        try simp only [z_m1, z_0, z_1, z_2, z_3, z_4, z_5, z_6, z_8, z_9, z_10, z_12, z_16, z_30, z_31, z_99, z_300, z_500, z_600, z_20000, z_m13, z_m11, z_7, z_11, z_13, z_15, z_18, z_40, z_80, z_100, z_120, z_150, z_179, z_210, z_999, z_104021, z_268435455, z_3070017, z_nL, zadd, zsub, zmul, zneg, zap]
        refine ⟨hq.1, tm_L_on hh74 hs75 hr76 (6 : Int) z72 (0 : Int) (0 : Int) _ _ (fun r77 hh78 hs79 hr80 hq => ?_) hq.2⟩
        try simp only [z_m1, z_0, z_1, z_2, z_3, z_4, z_5, z_6, z_8, z_9, z_10, z_12, z_16, z_30, z_31, z_99, z_300, z_500, z_600, z_20000, z_m13, z_m11, z_7, z_11, z_13, z_15, z_18, z_40, z_80, z_100, z_120, z_150, z_179, z_210, z_999, z_104021, z_268435455, z_3070017, z_nL, zadd, zsub, zmul, zneg, zap]
        have rx := hq.1
        have hq := hq.2
        have ry := hq.1
        have hq := hq.2
        refine ⟨fun c => ?_, fun c => ?_⟩
        · have hq := hq.1 (fun h => c ((z_eq rx ry).mpr h))
          exact hq
        · have hq := hq.2 ((z_eq rx ry).mp c)
          have rx := hq.1
          have hq := hq.2
          refine ⟨fun c => ?_, fun c => ?_⟩
          · have hq := hq.1 (fun h => c ((z_eq rx ⟨by decide, by decide⟩).mpr h))
            exact hq
          · have hq := hq.2 ((z_eq rx ⟨by decide, by decide⟩).mp c)
            exact hq)
  have hq := hq (by
    intro k hh hs hr ha x9 x10 x11 x12 x14 x15 x19 x23 t0 hq
    refine k1897 k (zS hh) (zS hs) (zS hr) (zS ha) (zI x9) (zI x10) (zI x11) (zI x12) (zI x14) (zI x15) (zI x19) (zI x23) (zI t0) ?_
    try simp only [z_m1, z_0, z_1, z_2, z_3, z_4, z_5, z_6, z_8, z_9, z_10, z_12, z_16, z_30, z_31, z_99, z_300, z_500, z_600, z_20000, z_m13, z_m11, z_7, z_11, z_13, z_15, z_18, z_40, z_80, z_100, z_120, z_150, z_179, z_210, z_999, z_104021, z_268435455, z_3070017, z_nL, zadd, zsub, zmul, zneg, zap]
    obtain ⟨hkb, r99, hr99, hq⟩ := hq
    refine ⟨hkb, zI r99, tn_X4_copyOf hh hs hr x19 r99 hr99, ?_⟩
    try simp only [z_m1, z_0, z_1, z_2, z_3, z_4, z_5, z_6, z_8, z_9, z_10, z_12, z_16, z_30, z_31, z_99, z_300, z_500, z_600, z_20000, z_m13, z_m11, z_7, z_11, z_13, z_15, z_18, z_40, z_80, z_100, z_120, z_150, z_179, z_210, z_999, z_104021, z_268435455, z_3070017, z_nL, zadd, zsub, zmul, zneg, zap]
    have rx := hq.1
    have hq := hq.2
    refine ⟨fun c => ?_, fun c => ?_⟩
    · have hq := hq.1 (fun h => c ((z_eq rx ⟨by decide, by decide⟩).mpr h))
      exact hq
    · have hq := hq.2 ((z_eq rx ⟨by decide, by decide⟩).mp c)
      exact hq)
  have hq := hq (by
    intro k hh hs hr ha x9 x10 x11 x12 x14 x15 x19 x23 t0 t1 hq
    refine k1912 k (zS hh) (zS hs) (zS hr) (zS ha) (zI x9) (zI x10) (zI x11) (zI x12) (zI x14) (zI x15) (zI x19) (zI x23) (zI t0) (zI t1) ?_
    try simp only [z_m1, z_0, z_1, z_2, z_3, z_4, z_5, z_6, z_8, z_9, z_10, z_12, z_16, z_30, z_31, z_99, z_300, z_500, z_600, z_20000, z_m13, z_m11, z_7, z_11, z_13, z_15, z_18, z_40, z_80, z_100, z_120, z_150, z_179, z_210, z_999, z_104021, z_268435455, z_3070017, z_nL, zadd, zsub, zmul, zneg, zap]
    have rx := hq.1
    have hq := hq.2
    have ry := hq.1
    have hq := hq.2
    refine ⟨fun c => ?_, fun c => ?_⟩
    · have hq := hq.1 (fun h => c ((z_eq rx ry).mpr h))
      exact hq
    · have hq := hq.2 ((z_eq rx ry).mp c)
      have rx := hq.1
      have hq := hq.2
      refine ⟨fun c => ?_, fun c => ?_⟩
      · have hq := hq.1 ((z_le ⟨by decide, by decide⟩ rx).mp c)
        exact hq
      · have hq := hq.2 (fun h => c ((z_le ⟨by decide, by decide⟩ rx).mpr h))
        refine ⟨fun c0 => absurd ((z_eq (by have := hq.2.1; unfold inR; omega) ⟨by decide, by decide⟩).mp c0) (by have := hq.2.1; omega), ?_⟩
        intro w9 e9
        rw [zrem hq.1 hq.2.1] at e9
        subst e9
        have zb := zrem_b hq.1.1 hq.2.1.1
        have hq := hq.2.2 _ zb.1 zb.2.1 zb.2.2
        generalize x15 % (8 : Int) = z114 at hq ⊢
        try simp only [z_m1, z_0, z_1, z_2, z_3, z_4, z_5, z_6, z_8, z_9, z_10, z_12, z_16, z_30, z_31, z_99, z_300, z_500, z_600, z_20000, z_m13, z_m11, z_7, z_11, z_13, z_15, z_18, z_40, z_80, z_100, z_120, z_150, z_179, z_210, z_999, z_104021, z_268435455, z_3070017, z_nL, zadd, zsub, zmul, zneg, zap]
        have rx := hq.1
        have hq := hq.2
        refine ⟨fun c => ?_, fun c => ?_⟩
        · have hq := hq.1 ((z_lt ⟨by decide, by decide⟩ rx).mp c)
          exact hq
        · have hq := hq.2 (fun h => c ((z_lt ⟨by decide, by decide⟩ rx).mpr h))
          refine ⟨zin hq.1.1 hq.1.2 (by decide), ?_⟩
          try simp only [zcl hq.1.1 (Int.lt_trans hq.1.2 (by decide))]
          have hq := hq.2
          try simp only [z_m1, z_0, z_1, z_2, z_3, z_4, z_5, z_6, z_8, z_9, z_10, z_12, z_16, z_30, z_31, z_99, z_300, z_500, z_600, z_20000, z_m13, z_m11, z_7, z_11, z_13, z_15, z_18, z_40, z_80, z_100, z_120, z_150, z_179, z_210, z_999, z_104021, z_268435455, z_3070017, z_nL, zadd, zsub, zmul, zneg, zap]
          refine ⟨hq.1, tm_L_areOffers hh hs hr ha x19 (ha 1 x19.toNat) x12 _ _ (fun r115 hh116 hs117 hr118 hq => ?_) hq.2⟩
          try simp only [z_m1, z_0, z_1, z_2, z_3, z_4, z_5, z_6, z_8, z_9, z_10, z_12, z_16, z_30, z_31, z_99, z_300, z_500, z_600, z_20000, z_m13, z_m11, z_7, z_11, z_13, z_15, z_18, z_40, z_80, z_100, z_120, z_150, z_179, z_210, z_999, z_104021, z_268435455, z_3070017, z_nL, zadd, zsub, zmul, zneg, zap]
          have rx := hq.1
          have hq := hq.2
          refine ⟨fun c => ?_, fun c => ?_⟩
          · have hq := hq.1 ((z_eq rx ⟨by decide, by decide⟩).mp c)
            exact hq
          · have hq := hq.2 (fun h => c ((z_eq rx ⟨by decide, by decide⟩).mpr h))
            exact hq)
  try simp only [z_m1, z_0, z_1, z_2, z_3, z_4, z_5, z_6, z_8, z_9, z_10, z_12, z_16, z_30, z_31, z_99, z_300, z_500, z_600, z_20000, z_m13, z_m11, z_7, z_11, z_13, z_15, z_18, z_40, z_80, z_100, z_120, z_150, z_179, z_210, z_999, z_104021, z_268435455, z_3070017, z_nL, zadd, zsub, zmul, zneg, zap]
  obtain ⟨hkb, r1, hr1, hq⟩ := hq
  refine ⟨hkb, zI r1, t_X4_now hh hs hr r1 hr1, ?_⟩
  try simp only [z_m1, z_0, z_1, z_2, z_3, z_4, z_5, z_6, z_8, z_9, z_10, z_12, z_16, z_30, z_31, z_99, z_300, z_500, z_600, z_20000, z_m13, z_m11, z_7, z_11, z_13, z_15, z_18, z_40, z_80, z_100, z_120, z_150, z_179, z_210, z_999, z_104021, z_268435455, z_3070017, z_nL, zadd, zsub, zmul, zneg, zap]
  have rx := hq.1
  have hq := hq.2
  refine ⟨fun c => ?_, fun c => ?_⟩
  · have hq := hq.1 (fun h => c ((z_eq rx ⟨by decide, by decide⟩).mpr h))
    exact hq
  · have hq := hq.2 ((z_eq rx ⟨by decide, by decide⟩).mp c)
    obtain ⟨hkb, r2, hr2, hq⟩ := hq
    refine ⟨hkb, zI r2, t_X4_waiting hh hs hr r2 hr2, ?_⟩
    try simp only [z_m1, z_0, z_1, z_2, z_3, z_4, z_5, z_6, z_8, z_9, z_10, z_12, z_16, z_30, z_31, z_99, z_300, z_500, z_600, z_20000, z_m13, z_m11, z_7, z_11, z_13, z_15, z_18, z_40, z_80, z_100, z_120, z_150, z_179, z_210, z_999, z_104021, z_268435455, z_3070017, z_nL, zadd, zsub, zmul, zneg, zap]
    have rx := hq.1
    have hq := hq.2
    refine ⟨fun c => ?_, fun c => ?_⟩
    · have hq := hq.1 (fun h => c ((z_eq rx ⟨by decide, by decide⟩).mpr h))
      exact hq
    · have hq := hq.2 ((z_eq rx ⟨by decide, by decide⟩).mp c)
      exact hq
