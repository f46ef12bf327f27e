theorem kL_law_0 : (.constant RL 88 (104021) : Cond) ∈ wsL_law := by decide +kernel
theorem kL_law_1 : (.constant RL 87 (3070017) : Cond) ∈ wsL_law := by decide +kernel
theorem kL_law_2 : (.constant RL 89 (268435455) : Cond) ∈ wsL_law := by decide +kernel
def P_L_law (L : Nat) (xs : Nat → Int32) (gh gs gr ga : St) : Prop := ∀ V78 : Nat → St → St → St → St → Int32 → Int32 → Int32 → Int32 → Prop, ∀ V79 : Nat → St → St → St → St → Int32 → Int32 → Int32 → Int32 → Int32 → Prop, ∀ V116 : Nat → St → St → St → St → Int32 → Int32 → Int32 → Int32 → Int32 → Int32 → Int32 → Prop, ∀ V160 : Nat → St → St → St → St → Int32 → Int32 → Int32 → Int32 → Int32 → Int32 → Int32 → Int32 → Prop, ∀ V218 : Nat → St → St → St → St → Int32 → Int32 → Int32 → Int32 → Int32 → Int32 → Int32 → Int32 → Int32 → Prop, ∀ V234 : Nat → St → St → St → St → Int32 → Int32 → Int32 → Int32 → Int32 → Int32 → Int32 → Int32 → Int32 → Int32 → Prop, ∀ V250 : Nat → St → St → St → St → Int32 → Int32 → Int32 → Int32 → Int32 → Int32 → Int32 → Int32 → Int32 → Int32 → Int32 → Prop, ∀ V266 : Nat → St → St → St → St → Int32 → Int32 → Int32 → Int32 → Int32 → Int32 → Int32 → Int32 → Int32 → Int32 → Int32 → Int32 → Prop, ∀ V330 : Nat → St → St → St → St → Int32 → Int32 → Int32 → Int32 → Int32 → Int32 → Int32 → Prop, ∀ V331 : Nat → St → St → St → St → Int32 → Int32 → Int32 → Int32 → Int32 → Int32 → Int32 → Int32 → Prop, ∀ V339 : Nat → St → St → St → St → Int32 → Int32 → Int32 → Int32 → Int32 → Int32 → Int32 → Int32 → Int32 → Int32 → Int32 → Int32 → Int32 → Prop, ∀ V421 : Nat → St → St → St → St → Int32 → Int32 → Int32 → Int32 → Int32 → Int32 → Int32 → Int32 → Prop, ∀ V549 : Nat → St → St → St → St → Int32 → Int32 → Int32 → Int32 → Int32 → Int32 → Int32 → Int32 → Int32 → Int32 → Int32 → Int32 → Int32 → Prop, ∀ V611 : Nat → St → St → St → St → Int32 → Int32 → Int32 → Int32 → Int32 → Int32 → Int32 → Int32 → Int32 → Int32 → Int32 → Int32 → Int32 → Prop, ∀ V644 : Nat → St → St → St → St → Int32 → Int32 → Int32 → Int32 → Int32 → Int32 → Int32 → Int32 → Prop, ∀ V658 : Nat → St → St → St → St → Int32 → Int32 → Int32 → Int32 → Int32 → Int32 → Int32 → Int32 → Int32 → Prop, ∀ V749 : Nat → St → St → St → St → Int32 → Int32 → Int32 → Int32 → Int32 → Int32 → Int32 → Int32 → Int32 → Int32 → Prop, ∀ V756 : Nat → St → St → St → St → Int32 → Int32 → Int32 → Int32 → Int32 → Int32 → Int32 → Int32 → Prop, ∀ V757 : Nat → St → St → St → St → Int32 → Int32 → Int32 → Int32 → Int32 → Int32 → Int32 → Int32 → Int32 → Prop, ∀ V771 : Nat → St → St → St → St → Int32 → Int32 → Int32 → Int32 → Int32 → Int32 → Int32 → Int32 → Int32 → Int32 → Int32 → Int32 → Int32 → Prop, ∀ V806 : Nat → St → St → St → St → Int32 → Int32 → Int32 → Int32 → Int32 → Int32 → Int32 → Int32 → Int32 → Int32 → Int32 → Prop, ∀ V866 : Nat → St → St → St → St → Int32 → Int32 → Int32 → Int32 → Int32 → Int32 → Int32 → Int32 → Int32 → Int32 → Prop, ∀ V876 : Nat → St → St → St → St → Int32 → Int32 → Int32 → Int32 → Int32 → Int32 → Int32 → Int32 → Int32 → Int32 → Int32 → Prop, ∀ V895 : Nat → St → St → St → St → Int32 → Int32 → Int32 → Int32 → Int32 → Int32 → Int32 → Int32 → Int32 → Int32 → Int32 → Prop, ∀ V903 : Nat → St → St → St → St → Int32 → Int32 → Int32 → Int32 → Int32 → Int32 → Int32 → Int32 → Prop, ∀ V904 : Nat → St → St → St → St → Int32 → Int32 → Int32 → Int32 → Int32 → Int32 → Int32 → Int32 → Int32 → Prop, ∀ V919 : Nat → St → St → St → St → Int32 → Int32 → Int32 → Int32 → Int32 → Int32 → Int32 → Int32 → Int32 → Int32 → Int32 → Prop, ∀ V987 : Nat → St → St → St → St → Int32 → Int32 → Int32 → Int32 → Int32 → Int32 → Int32 → Int32 → Int32 → Int32 → Int32 → Int32 → Int32 → Prop, ∀ V1020 : Nat → St → St → St → St → Int32 → Int32 → Int32 → Int32 → Int32 → Int32 → Int32 → Int32 → Int32 → Prop, ∀ V1108 : Nat → St → St → St → St → Int32 → Int32 → Int32 → Int32 → Int32 → Int32 → Int32 → Int32 → Int32 → Int32 → Int32 → Int32 → Int32 → Prop, ∀ V1147 : Nat → St → St → St → St → Int32 → Int32 → Int32 → Int32 → Int32 → Int32 → Int32 → Int32 → Int32 → Prop, ∀ V1148 : Nat → St → St → St → St → Int32 → Int32 → Int32 → Int32 → Int32 → Int32 → Int32 → Int32 → Int32 → Int32 → Prop, ∀ V1172 : Nat → St → St → St → St → Int32 → Int32 → Int32 → Int32 → Int32 → Int32 → Int32 → Int32 → Int32 → Int32 → Prop, ∀ V1173 : Nat → St → St → St → St → Int32 → Int32 → Int32 → Int32 → Int32 → Int32 → Int32 → Int32 → Int32 → Int32 → Int32 → Prop, ∀ V1198 : Nat → St → St → St → St → Int32 → Int32 → Int32 → Int32 → Int32 → Int32 → Int32 → Int32 → Int32 → Int32 → Int32 → Int32 → Int32 → Prop, ∀ V1208 : Nat → St → St → St → St → Int32 → Int32 → Int32 → Int32 → Int32 → Int32 → Int32 → Int32 → Int32 → Int32 → Int32 → Int32 → Int32 → Prop, ∀ V1261 : Nat → St → St → St → St → Int32 → Int32 → Int32 → Int32 → Int32 → Int32 → Int32 → Int32 → Int32 → Prop, ∀ V1265 : Nat → St → St → St → St → Int32 → Int32 → Int32 → Int32 → Int32 → Int32 → Int32 → Int32 → Int32 → Prop, ∀ V1266 : Nat → St → St → St → St → Int32 → Int32 → Int32 → Int32 → Int32 → Int32 → Int32 → Int32 → Int32 → Int32 → Prop, ∀ V1290 : Nat → St → St → St → St → Int32 → Int32 → Int32 → Int32 → Int32 → Int32 → Int32 → Int32 → Int32 → Int32 → Int32 → Int32 → Int32 → Prop, ∀ V1358 : Nat → St → St → St → St → Int32 → Int32 → Int32 → Int32 → Int32 → Int32 → Int32 → Int32 → Int32 → Int32 → Int32 → Int32 → Int32 → Int32 → Prop, ∀ V1461 : Nat → St → St → St → St → Int32 → Int32 → Int32 → Int32 → Int32 → Int32 → Int32 → Int32 → Int32 → Int32 → Prop, ∀ V1489 : Nat → St → St → St → St → Int32 → Int32 → Int32 → Int32 → Int32 → Int32 → Int32 → Int32 → Int32 → Int32 → Int32 → Int32 → Prop, ∀ V1522 : Nat → St → St → St → St → Int32 → Int32 → Int32 → Int32 → Int32 → Int32 → Int32 → Int32 → Int32 → Int32 → Prop, ∀ V1559 : Nat → St → St → St → St → Int32 → Int32 → Int32 → Int32 → Int32 → Int32 → Int32 → Int32 → Int32 → Int32 → Int32 → Int32 → Int32 → Prop, ∀ V1672 : Nat → St → St → St → St → Int32 → Int32 → Int32 → Int32 → Int32 → Int32 → Int32 → Int32 → Int32 → Int32 → Int32 → Prop, ∀ V1770 : Nat → St → St → St → St → Int32 → Int32 → Int32 → Int32 → Int32 → Int32 → Int32 → Int32 → Prop, ∀ V1795 : Nat → St → St → St → St → Int32 → Int32 → Int32 → Int32 → Int32 → Int32 → Int32 → Prop, ∀ V1818 : Nat → St → St → St → St → Int32 → Int32 → Int32 → Int32 → Int32 → Int32 → Int32 → Prop, ∀ V1836 : Nat → St → St → St → St → Int32 → Int32 → Int32 → Int32 → Int32 → Int32 → Int32 → Prop, ∀ V1837 : Nat → St → St → St → St → Int32 → Int32 → Int32 → Int32 → Int32 → Int32 → Int32 → Int32 → Prop, ∀ V1897 : Nat → St → St → St → St → Int32 → Int32 → Int32 → Int32 → Int32 → Int32 → Int32 → Int32 → Int32 → Prop, ∀ V1912 : Nat → St → St → St → St → Int32 → Int32 → Int32 → Int32 → Int32 → Int32 → Int32 → Int32 → Int32 → Int32 → Prop, (∀ (k : Nat) (gh gs gr ga : St) (x9 x10 x11 x12 : Int32), (V79 k gh gs gr ga x9 x10 x11 x12 (0 : Int32)) → V78 k gh gs gr ga x9 x10 x11 x12) → (∀ (k : Nat) (gh gs gr ga : St) (x9 x10 x11 x12 t0 : Int32), (((40 : Int32) ≤ (nI L) → (((80 : Int32) ≤ (nI L) → (V116 k gh gs gr ga x9 x10 x11 x12 t0 (210 : Int32) (0 : Int32))) ∧ (¬ (80 : Int32) ≤ (nI L) → (V116 k gh gs gr ga x9 x10 x11 x12 t0 ((2 : Int32) * (nI L)) (0 : Int32))))) ∧ (¬ (40 : Int32) ≤ (nI L) → (V116 k gh gs gr ga x9 x10 x11 x12 t0 (150 : Int32) (0 : Int32)))) → V79 k gh gs gr ga x9 x10 x11 x12 t0) → (∀ (k : Nat) (gh gs gr ga : St) (x9 x10 x11 x12 x13 x14 x15 : Int32), ((x14 ≤ x15 → (k ≤ 10000 ∧ x13 = 1)) ∧ (¬ x14 ≤ x15 → ((x13 = 0 → (k ≤ 10000 ∧ x13 = 1)) ∧ (¬ x13 = 0 → (((nI L) ≤ x15 → (V160 k gh gs gr ga x9 x10 x11 x12 x13 x14 x15 (((((3070017 : Int32) * x15) * x15) + ((104021 : Int32) * x15)) + (179 : Int32)))) ∧ (¬ (nI L) ≤ x15 → (vp_in x15 L ∧ (V160 k gh gs gr ga x9 x10 x11 x12 x13 x14 x15 (xs x15.toNatClampNeg))))))))) → V116 k gh gs gr ga x9 x10 x11 x12 x13 x14 x15) → (∀ (k : Nat) (gh gs gr ga : St) (x9 x10 x11 x12 x13 x14 x15 t0 : Int32), (∀ y10 : Int32, y10 = t0 >>> ((4 : Int32) &&& 31) → (∀ y11 : Int32, y11 = y10 &&& (268435455 : Int32) → (((3 : Int32) ≤ x15 → (((5 : Int32) ≤ x15 → (((9 : Int32) ≤ x15 → (((11 : Int32) ≤ x15 → (∀ y12 : Int32, y12 = t0 &&& (15 : Int32) → (V218 k gh gs gr ga x9 x10 x11 x12 x13 x14 x15 y11 y12))) ∧ (¬ (11 : Int32) ≤ x15 → (V218 k gh gs gr ga x9 x10 x11 x12 x13 x14 x15 y11 (4 : Int32))))) ∧ (¬ (9 : Int32) ≤ x15 → (V218 k gh gs gr ga x9 x10 x11 x12 x13 x14 x15 y11 (2 : Int32))))) ∧ (¬ (5 : Int32) ≤ x15 → (V218 k gh gs gr ga x9 x10 x11 x12 x13 x14 x15 y11 (1 : Int32))))) ∧ (¬ (3 : Int32) ≤ x15 → (V218 k gh gs gr ga x9 x10 x11 x12 x13 x14 x15 y11 (0 : Int32)))))) → V160 k gh gs gr ga x9 x10 x11 x12 x13 x14 x15 t0) → (∀ (k : Nat) (gh gs gr ga : St) (x9 x10 x11 x12 x13 x14 x15 x17 t0 : Int32), ((¬ x10 = 0 → (¬ x10 = 0 ∧ (∀ y17 : Int32, y17 = x17 - x17 / x10 * x10 → (V234 k gh gs gr ga x9 x10 x11 x12 x13 x14 x15 x17 t0 y17)))) ∧ (x10 = 0 → (V234 k gh gs gr ga x9 x10 x11 x12 x13 x14 x15 x17 t0 (0 : Int32)))) → V218 k gh gs gr ga x9 x10 x11 x12 x13 x14 x15 x17 t0) → (∀ (k : Nat) (gh gs gr ga : St) (x9 x10 x11 x12 x13 x14 x15 x17 x18 t0 : Int32), ((¬ x11 = 0 → (¬ x11 = 0 ∧ (∀ y19 : Int32, y19 = x17 - x17 / x11 * x11 → (V250 k gh gs gr ga x9 x10 x11 x12 x13 x14 x15 x17 x18 t0 y19)))) ∧ (x11 = 0 → (V250 k gh gs gr ga x9 x10 x11 x12 x13 x14 x15 x17 x18 t0 (0 : Int32)))) → V234 k gh gs gr ga x9 x10 x11 x12 x13 x14 x15 x17 x18 t0) → (∀ (k : Nat) (gh gs gr ga : St) (x9 x10 x11 x12 x13 x14 x15 x17 x18 x19 t0 : Int32), ((¬ x12 = 0 → (¬ x12 = 0 ∧ (∀ y21 : Int32, y21 = x17 - x17 / x12 * x12 → (V266 k gh gs gr ga x9 x10 x11 x12 x13 x14 x15 x17 x18 x19 t0 y21)))) ∧ (x12 = 0 → (V266 k gh gs gr ga x9 x10 x11 x12 x13 x14 x15 x17 x18 x19 t0 (0 : Int32)))) → V250 k gh gs gr ga x9 x10 x11 x12 x13 x14 x15 x17 x18 x19 t0) → (∀ (k : Nat) (gh gs gr ga : St) (x9 x10 x11 x12 x13 x14 x15 x17 x18 x19 x20 t0 : Int32), (∀ y23 : Int32, y23 = x17 >>> ((5 : Int32) &&& 31) → (¬ (4 : Int32) = 0 ∧ (∀ y24 : Int32, y24 = y23 - y23 / (4 : Int32) * (4 : Int32) → ((¬ x18 = 0 → (V339 k gh gs gr ga x9 x10 x11 x12 x13 x14 x15 x17 x18 x19 x20 t0 y24)) ∧ (x18 = 0 → (((10 : Int32) ≤ x9 → (V339 k gh gs gr ga x9 x10 x11 x12 x13 x14 x15 x17 x18 x19 x20 t0 y24)) ∧ (¬ (10 : Int32) ≤ x9 → (¬ (5 : Int32) = 0 ∧ (∀ y25 : Int32, y25 = x17 - x17 / (5 : Int32) * (5 : Int32) → (vp_in x9 10 ∧ (∀ g26 : St, g26 = st_set ga 0 x9.toNatClampNeg ((2 : Int32) + y25) → (k ≤ 10000 ∧ ∃ r27 : Int32, P_X4_waiting gh gs gr r27 ∧ (vp_in x9 10 ∧ (k ≤ 10000 ∧ Pn_X4_addTable gh gs gr (g26 0 x9.toNatClampNeg) (fun (r28 : Int32) (gh29 gs30 gr31 : St) => (¬ r28 = x9 → (V330 k gh29 gs30 gr31 g26 x9 x10 x11 x12 x14 x15 x17)) ∧ (r28 = x9 → (k ≤ 10000 ∧ ∃ r32 : Int32, P_X4_waiting gh29 gs30 gr31 r32 ∧ ((¬ r32 = r27 → (V330 k gh29 gs30 gr31 g26 x9 x10 x11 x12 x14 x15 x17)) ∧ (r32 = r27 → (V331 k gh29 gs30 gr31 g26 x9 x10 x11 x12 x14 x15 x17 (1 : Int32))))))))))))))))))))) → V266 k gh gs gr ga x9 x10 x11 x12 x13 x14 x15 x17 x18 x19 x20 t0) → (∀ (k : Nat) (gh gs gr ga : St) (x9 x10 x11 x12 x14 x15 x17 : Int32), (V331 k gh gs gr ga x9 x10 x11 x12 x14 x15 x17 (0 : Int32)) → V330 k gh gs gr ga x9 x10 x11 x12 x14 x15 x17) → (∀ (k : Nat) (gh gs gr ga : St) (x9 x10 x11 x12 x14 x15 x17 t0 : Int32), (V1770 k gh gs gr ga (x9 + (1 : Int32)) x10 x11 x12 t0 x14 x15 x17) → V331 k gh gs gr ga x9 x10 x11 x12 x14 x15 x17 t0) → (∀ (k : Nat) (gh gs gr ga : St) (x9 x10 x11 x12 x13 x14 x15 x17 x18 x19 x20 x21 x22 : Int32), ((¬ x18 = (1 : Int32) → (V549 k gh gs gr ga x9 x10 x11 x12 x13 x14 x15 x17 x18 x19 x20 x21 x22)) ∧ (x18 = (1 : Int32) → (((8 : Int32) ≤ x11 → (V549 k gh gs gr ga x9 x10 x11 x12 x13 x14 x15 x17 x18 x19 x20 x21 x22)) ∧ (¬ (8 : Int32) ≤ x11 → (¬ (4 : Int32) = 0 ∧ (∀ y37 : Int32, y37 = x17 - x17 / (4 : Int32) * (4 : Int32) → (vp_in ((3 : Int32) * x11) 24 ∧ (∀ g38 : St, g38 = st_set ga 5 ((3 : Int32) * x11).toNatClampNeg ((1 : Int32) + y37) → (vp_in ((3 : Int32) * x11) 24 ∧ (∀ y39 : Int32, y39 = x17 >>> ((2 : Int32) &&& 31) → (vp_in ((3 : Int32) * x11) 24 ∧ (¬ ((13 : Int32) - (g38 5 ((3 : Int32) * x11).toNatClampNeg)) = 0 ∧ (∀ y40 : Int32, y40 = y39 - y39 / ((13 : Int32) - (g38 5 ((3 : Int32) * x11).toNatClampNeg)) * ((13 : Int32) - (g38 5 ((3 : Int32) * x11).toNatClampNeg)) → (vp_in (((3 : Int32) * x11) + (1 : Int32)) 24 ∧ (∀ g41 : St, g41 = st_set g38 5 (((3 : Int32) * x11) + (1 : Int32)).toNatClampNeg ((g38 5 ((3 : Int32) * x11).toNatClampNeg) + y40) → (∀ y42 : Int32, y42 = x17 >>> ((6 : Int32) &&& 31) → (∀ y43 : Int32, y43 = y42 &&& (3 : Int32) → (vp_in (((3 : Int32) * x11) + (2 : Int32)) 24 ∧ (∀ g44 : St, g44 = st_set g41 5 (((3 : Int32) * x11) + (2 : Int32)).toNatClampNeg ((5 : Int32) + (y43 * (15 : Int32))) → (V421 k gh gs gr g44 x9 x10 x11 x12 x14 x15 x17 (0 : Int32))))))))))))))))))))) → V339 k gh gs gr ga x9 x10 x11 x12 x13 x14 x15 x17 x18 x19 x20 x21 x22) → (∀ (k : Nat) (gh gs gr ga : St) (x9 x10 x11 x12 x14 x15 x17 x23 : Int32), (((4 : Int32) ≤ x23 → (vp_in ((3 : Int32) * x11) 24 ∧ (vp_in (((3 : Int32) * x11) + (1 : Int32)) 24 ∧ (vp_in (((3 : Int32) * x11) + (2 : Int32)) 24 ∧ (vp_in ((4 : Int32) * x11) 32 ∧ (vp_in (((4 : Int32) * x11) + (1 : Int32)) 32 ∧ (vp_in (((4 : Int32) * x11) + (2 : Int32)) 32 ∧ (vp_in (((4 : Int32) * x11) + (3 : Int32)) 32 ∧ (k ≤ 10000 ∧ Pn_X4_addTitle gh gs gr (ga 5 ((3 : Int32) * x11).toNatClampNeg) (ga 5 (((3 : Int32) * x11) + (1 : Int32)).toNatClampNeg) (ga 5 (((3 : Int32) * x11) + (2 : Int32)).toNatClampNeg) (ga 4 ((4 : Int32) * x11).toNatClampNeg) (ga 4 (((4 : Int32) * x11) + (1 : Int32)).toNatClampNeg) (ga 4 (((4 : Int32) * x11) + (2 : Int32)).toNatClampNeg) (ga 4 (((4 : Int32) * x11) + (3 : Int32)).toNatClampNeg) (fun (r59 : Int32) (gh60 gs61 gr62 : St) => (¬ r59 = x11 → (V1770 k gh60 gs61 gr62 ga x9 x10 (x11 + (1 : Int32)) x12 (0 : Int32) x14 x15 x17)) ∧ (r59 = x11 → (k ≤ 10000 ∧ ∃ r63 : Int32, Pn_X4_depth gh60 gs61 gr62 x11 r63 ∧ ((¬ r63 = 0 → (V1770 k gh60 gs61 gr62 ga x9 x10 (x11 + (1 : Int32)) x12 (0 : Int32) x14 x15 x17)) ∧ (r63 = 0 → (V1770 k gh60 gs61 gr62 ga x9 x10 (x11 + (1 : Int32)) x12 (1 : Int32) x14 x15 x17))))))))))))))) ∧ (¬ (4 : Int32) ≤ x23 → (∀ y66 : Int32, y66 = x17 >>> (((8 : Int32) + ((3 : Int32) * x23)) &&& 31) → (∀ y67 : Int32, y67 = y66 &&& (7 : Int32) → (¬ (6 : Int32) = 0 ∧ (∀ y68 : Int32, y68 = y67 - y67 / (6 : Int32) * (6 : Int32) → (vp_in (((4 : Int32) * x11) + x23) 32 ∧ (∀ g69 : St, g69 = st_set ga 4 (((4 : Int32) * x11) + x23).toNatClampNeg y68 → (V421 k gh gs gr g69 x9 x10 x11 x12 x14 x15 x17 (x23 + (1 : Int32))))))))))) → V421 k gh gs gr ga x9 x10 x11 x12 x14 x15 x17 x23) → (∀ (k : Nat) (gh gs gr ga : St) (x9 x10 x11 x12 x13 x14 x15 x17 x18 x19 x20 x21 x22 : Int32), ((¬ x18 = (2 : Int32) → (V611 k gh gs gr ga x9 x10 x11 x12 x13 x14 x15 x17 x18 x19 x20 x21 x22)) ∧ (x18 = (2 : Int32) → (((16 : Int32) ≤ x12 → (V611 k gh gs gr ga x9 x10 x11 x12 x13 x14 x15 x17 x18 x19 x20 x21 x22)) ∧ (¬ (16 : Int32) ≤ x12 → (vp_in x12 16 ∧ (∀ g47 : St, g47 = st_set ga 3 x12.toNatClampNeg x20 → (k ≤ 10000 ∧ Pn_X4_addCopy gh gs gr x20 (fun (r48 : Int32) (gh49 gs50 gr51 : St) => (¬ r48 = x12 → (V1770 k gh49 gs50 gr51 g47 x9 x10 x11 (x12 + (1 : Int32)) (0 : Int32) x14 x15 x17)) ∧ (r48 = x12 → (k ≤ 10000 ∧ ∃ r52 : Int32, Pn_X4_stateOf gh49 gs50 gr51 x12 r52 ∧ ((¬ r52 = 0 → (V1770 k gh49 gs50 gr51 g47 x9 x10 x11 (x12 + (1 : Int32)) (0 : Int32) x14 x15 x17)) ∧ (r52 = 0 → (k ≤ 10000 ∧ ∃ r53 : Int32, Pn_X4_lenders gh49 gs50 gr51 x12 r53 ∧ ((¬ r53 = 0 → (V1770 k gh49 gs50 gr51 g47 x9 x10 x11 (x12 + (1 : Int32)) (0 : Int32) x14 x15 x17)) ∧ (r53 = 0 → (V1770 k gh49 gs50 gr51 g47 x9 x10 x11 (x12 + (1 : Int32)) (1 : Int32) x14 x15 x17)))))))))))))))) → V549 k gh gs gr ga x9 x10 x11 x12 x13 x14 x15 x17 x18 x19 x20 x21 x22) → (∀ (k : Nat) (gh gs gr ga : St) (x9 x10 x11 x12 x13 x14 x15 x17 x18 x19 x20 x21 x22 : Int32), (((4 : Int32) ≤ x18 → (V771 k gh gs gr ga x9 x10 x11 x12 x13 x14 x15 x17 x18 x19 x20 x21 x22)) ∧ (¬ (4 : Int32) ≤ x18 → (vp_in x20 8 ∧ (((12 : Int32) ≤ (ga 6 x20.toNatClampNeg) → (V771 k gh gs gr ga x9 x10 x11 x12 x13 x14 x15 x17 x18 x19 x20 x21 x22)) ∧ (¬ (12 : Int32) ≤ (ga 6 x20.toNatClampNeg) → (vp_in x20 8 ∧ (((ga 6 x20.toNatClampNeg) = 0 → (V644 k gh gs gr ga x9 x10 x11 x12 x14 x15 x17 x20)) ∧ (¬ (ga 6 x20.toNatClampNeg) = 0 → (∀ y79 : Int32, y79 = x17 >>> ((3 : Int32) &&& 31) → (∀ y80 : Int32, y80 = y79 &&& (3 : Int32) → ((¬ y80 = 0 → (∀ y81 : Int32, y81 = x17 >>> ((5 : Int32) &&& 31) → (vp_in x20 8 ∧ (¬ (ga 6 x20.toNatClampNeg) = 0 ∧ (∀ y82 : Int32, y82 = y81 - y81 / (ga 6 x20.toNatClampNeg) * (ga 6 x20.toNatClampNeg) → (V658 k gh gs gr ga x9 x10 x11 x12 x14 x15 x17 x20 y82)))))) ∧ (y80 = 0 → (V644 k gh gs gr ga x9 x10 x11 x12 x14 x15 x17 x20))))))))))))) → V611 k gh gs gr ga x9 x10 x11 x12 x13 x14 x15 x17 x18 x19 x20 x21 x22) → (∀ (k : Nat) (gh gs gr ga : St) (x9 x10 x11 x12 x14 x15 x17 x20 : Int32), (V658 k gh gs gr ga x9 x10 x11 x12 x14 x15 x17 x20 (-1 : Int32)) → V644 k gh gs gr ga x9 x10 x11 x12 x14 x15 x17 x20) → (∀ (k : Nat) (gh gs gr ga : St) (x9 x10 x11 x12 x14 x15 x17 x20 t0 : Int32), (k ≤ 10000 ∧ ∃ r99 : Int32, Pn_X4_depth gh gs gr x20 r99 ∧ (∀ y100 : Int32, y100 = x17 >>> ((9 : Int32) &&& 31) → (∀ y101 : Int32, y101 = y100 &&& (3 : Int32) → (∀ y102 : Int32, y102 = x17 >>> ((11 : Int32) &&& 31) → (¬ (40 : Int32) = 0 ∧ (∀ y103 : Int32, y103 = y102 - y102 / (40 : Int32) * (40 : Int32) → (∀ y104 : Int32, y104 = x17 >>> ((18 : Int32) &&& 31) → (¬ (100 : Int32) = 0 ∧ (∀ y105 : Int32, y105 = y104 - y104 / (100 : Int32) * (100 : Int32) → (k ≤ 10000 ∧ Pn_X4_addRule gh gs gr x20 t0 y101 ((1 : Int32) + y103) y105 (fun (r106 : Int32) (gh107 gs108 gr109 : St) => vp_in x20 8 ∧ ((¬ r106 = (ga 6 x20.toNatClampNeg) → (V756 k gh107 gs108 gr109 ga x9 x10 x11 x12 x14 x15 x17 x20)) ∧ (r106 = (ga 6 x20.toNatClampNeg) → (k ≤ 10000 ∧ ∃ r110 : Int32, Pn_X4_depth gh107 gs108 gr109 x20 r110 ∧ ((r110 < r99 → (V756 k gh107 gs108 gr109 ga x9 x10 x11 x12 x14 x15 x17 x20)) ∧ (¬ r110 < r99 → (k ≤ 10000 ∧ ∃ r111 : Int32, Pn_X4_depth gh107 gs108 gr109 x20 r111 ∧ (((r99 + (1 : Int32)) < r111 → (V756 k gh107 gs108 gr109 ga x9 x10 x11 x12 x14 x15 x17 x20)) ∧ (¬ (r99 + (1 : Int32)) < r111 → (k ≤ 10000 ∧ ∃ r112 : Int32, Pn_X4_depth gh107 gs108 gr109 x20 r112 ∧ ((0 ≤ t0 → (V749 k gh107 gs108 gr109 ga x9 x10 x11 x12 x14 x15 x17 x20 (2 : Int32) r112)) ∧ (¬ 0 ≤ t0 → (V749 k gh107 gs108 gr109 ga x9 x10 x11 x12 x14 x15 x17 x20 (1 : Int32) r112))))))))))))))))))))))) → V658 k gh gs gr ga x9 x10 x11 x12 x14 x15 x17 x20 t0) → (∀ (k : Nat) (gh gs gr ga : St) (x9 x10 x11 x12 x14 x15 x17 x20 t0 t1 : Int32), ((t1 < t0 → (V756 k gh gs gr ga x9 x10 x11 x12 x14 x15 x17 x20)) ∧ (¬ t1 < t0 → (V757 k gh gs gr ga x9 x10 x11 x12 x14 x15 x17 x20 (1 : Int32)))) → V749 k gh gs gr ga x9 x10 x11 x12 x14 x15 x17 x20 t0 t1) → (∀ (k : Nat) (gh gs gr ga : St) (x9 x10 x11 x12 x14 x15 x17 x20 : Int32), (V757 k gh gs gr ga x9 x10 x11 x12 x14 x15 x17 x20 (0 : Int32)) → V756 k gh gs gr ga x9 x10 x11 x12 x14 x15 x17 x20) → (∀ (k : Nat) (gh gs gr ga : St) (x9 x10 x11 x12 x14 x15 x17 x20 t0 : Int32), (vp_in x20 8 ∧ (vp_in x20 8 ∧ (∀ g186 : St, g186 = st_set ga 6 x20.toNatClampNeg ((ga 6 x20.toNatClampNeg) + (1 : Int32)) → (V1770 k gh gs gr g186 x9 x10 x11 x12 t0 x14 x15 x17)))) → V757 k gh gs gr ga x9 x10 x11 x12 x14 x15 x17 x20 t0) → (∀ (k : Nat) (gh gs gr ga : St) (x9 x10 x11 x12 x13 x14 x15 x17 x18 x19 x20 x21 x22 : Int32), (((6 : Int32) ≤ x18 → (V987 k gh gs gr ga x9 x10 x11 x12 x13 x14 x15 x17 x18 x19 x20 x21 x22)) ∧ (¬ (6 : Int32) ≤ x18 → (((30 : Int32) ≤ x10 → (V987 k gh gs gr ga x9 x10 x11 x12 x13 x14 x15 x17 x18 x19 x20 x21 x22)) ∧ (¬ (30 : Int32) ≤ x10 → (∀ y94 : Int32, y94 = x17 >>> ((3 : Int32) &&& 31) → (∀ y95 : Int32, y95 = x17 &&& (1 : Int32) → ((¬ y95 = 0 → (V806 k gh gs gr ga x9 x10 x11 x12 x14 x15 x17 (12 : Int32) y94 (1 : Int32) x10)) ∧ (y95 = 0 → (V806 k gh gs gr ga x9 x10 x11 x12 x14 x15 x17 (4 : Int32) y94 (1 : Int32) x10))))))))) → V771 k gh gs gr ga x9 x10 x11 x12 x13 x14 x15 x17 x18 x19 x20 x21 x22) → (∀ (k : Nat) (gh gs gr ga : St) (x9 x10 x11 x12 x14 x15 x17 t0 t1 t2 t3 : Int32), (¬ t0 = 0 ∧ (∀ y145 : Int32, y145 = t1 - t1 / t0 * t0 → (vp_in t3 30 ∧ (∀ g146 : St, g146 = st_set ga 1 t3.toNatClampNeg (t2 + y145) → (vp_in x10 30 ∧ (k ≤ 10000 ∧ ∃ r147 : Int32, Pn_X4_waste gh gs gr (g146 1 x10.toNatClampNeg) r147 ∧ (k ≤ 10000 ∧ ∃ r148 : Int32, P_X4_waiting gh gs gr r148 ∧ (vp_in x10 30 ∧ (∀ y149 : Int32, y149 = x17 >>> ((7 : Int32) &&& 31) → (¬ (120 : Int32) = 0 ∧ (∀ y150 : Int32, y150 = y149 - y149 / (120 : Int32) * (120 : Int32) → (k + 1 ≤ 10000 ∧ P_L_on gh gs gr (8 : Int32) (g146 1 x10.toNatClampNeg) ((10 : Int32) + y150) (0 : Int32) (fun (r151 : Int32) (gh152 gs153 gr154 : St) => (¬ r151 = x10 → (V903 (k + 1) gh152 gs153 gr154 g146 x9 x10 x11 x12 x14 x15 x17 r147)) ∧ (r151 = x10 → (k + 1 ≤ 10000 ∧ ∃ r155 : Int32, Pn_X4_tableOf gh152 gs153 gr154 x10 r155 ∧ ((r155 < 0 → (V866 (k + 1) gh152 gs153 gr154 g146 x9 x10 x11 x12 x14 x15 x17 r147 r148 (0 : Int32))) ∧ (¬ r155 < 0 → (V866 (k + 1) gh152 gs153 gr154 g146 x9 x10 x11 x12 x14 x15 x17 r147 r148 (1 : Int32))))))))))))))))))) → V806 k gh gs gr ga x9 x10 x11 x12 x14 x15 x17 t0 t1 t2 t3) → (∀ (k : Nat) (gh gs gr ga : St) (x9 x10 x11 x12 x14 x15 x17 x23 x24 t0 : Int32), ((x23 < 0 → (V876 k gh gs gr ga x9 x10 x11 x12 x14 x15 x17 x23 x24 (0 : Int32) t0)) ∧ (¬ x23 < 0 → (V876 k gh gs gr ga x9 x10 x11 x12 x14 x15 x17 x23 x24 (1 : Int32) t0))) → V866 k gh gs gr ga x9 x10 x11 x12 x14 x15 x17 x23 x24 t0) → (∀ (k : Nat) (gh gs gr ga : St) (x9 x10 x11 x12 x14 x15 x17 x23 x24 t0 t1 : Int32), ((¬ t1 = t0 → (V903 k gh gs gr ga x9 x10 x11 x12 x14 x15 x17 x23)) ∧ (t1 = t0 → (k ≤ 10000 ∧ ∃ r227 : Int32, P_X4_waiting gh gs gr r227 ∧ ((0 ≤ x23 → (V895 k gh gs gr ga x9 x10 x11 x12 x14 x15 x17 x23 (0 : Int32) x24 r227)) ∧ (¬ 0 ≤ x23 → (V895 k gh gs gr ga x9 x10 x11 x12 x14 x15 x17 x23 (1 : Int32) x24 r227)))))) → V876 k gh gs gr ga x9 x10 x11 x12 x14 x15 x17 x23 x24 t0 t1) → (∀ (k : Nat) (gh gs gr ga : St) (x9 x10 x11 x12 x14 x15 x17 x23 t0 t1 t2 : Int32), ((¬ t2 = (t1 + t0) → (V903 k gh gs gr ga x9 x10 x11 x12 x14 x15 x17 x23)) ∧ (t2 = (t1 + t0) → (V904 k gh gs gr ga x9 x10 x11 x12 x14 x15 x17 x23 (1 : Int32)))) → V895 k gh gs gr ga x9 x10 x11 x12 x14 x15 x17 x23 t0 t1 t2) → (∀ (k : Nat) (gh gs gr ga : St) (x9 x10 x11 x12 x14 x15 x17 x23 : Int32), (V904 k gh gs gr ga x9 x10 x11 x12 x14 x15 x17 x23 (0 : Int32)) → V903 k gh gs gr ga x9 x10 x11 x12 x14 x15 x17 x23) → (∀ (k : Nat) (gh gs gr ga : St) (x9 x10 x11 x12 x14 x15 x17 x23 t0 : Int32), (k ≤ 10000 ∧ ∃ r226 : Int32, Pn_X4_tablesOf gh gs gr x10 r226 ∧ (V919 k gh gs gr ga x9 x10 x11 x12 t0 x14 x15 x17 x23 ((1 : Int32) - r226) (0 : Int32))) → V904 k gh gs gr ga x9 x10 x11 x12 x14 x15 x17 x23 t0) → (∀ (k : Nat) (gh gs gr ga : St) (x9 x10 x11 x12 x13 x14 x15 x17 x23 x25 x26 : Int32), (k ≤ 10000 ∧ ∃ r252 : Int32, Pn_X4_tablesOf gh gs gr x10 r252 ∧ ((r252 ≤ x26 → ((x13 = 0 → (V1770 k gh gs gr ga x9 (x10 + (1 : Int32)) x11 x12 (0 : Int32) x14 x15 x17)) ∧ (¬ x13 = 0 → ((x23 < 0 → (V1770 k gh gs gr ga x9 (x10 + (1 : Int32)) x11 x12 (1 : Int32) x14 x15 x17)) ∧ (¬ x23 < 0 → (vp_in x10 30 ∧ ((¬ x25 = ((ga 1 x10.toNatClampNeg) + x23) → (V1770 k gh gs gr ga x9 (x10 + (1 : Int32)) x11 x12 (0 : Int32) x14 x15 x17)) ∧ (x25 = ((ga 1 x10.toNatClampNeg) + x23) → (V1770 k gh gs gr ga x9 (x10 + (1 : Int32)) x11 x12 (1 : Int32) x14 x15 x17))))))))) ∧ (¬ r252 ≤ x26 → (k ≤ 10000 ∧ ∃ r256 : Int32, Pn_X4_tableOf gh gs gr x10 r256 ∧ (vp_in (r256 + x26) 10 ∧ (V919 k gh gs gr ga x9 x10 x11 x12 x13 x14 x15 x17 x23 (x25 + (ga 0 (r256 + x26).toNatClampNeg)) (x26 + (1 : Int32)))))))) → V919 k gh gs gr ga x9 x10 x11 x12 x13 x14 x15 x17 x23 x25 x26) → (∀ (k : Nat) (gh gs gr ga : St) (x9 x10 x11 x12 x13 x14 x15 x17 x18 x19 x20 x21 x22 : Int32), ((¬ x18 = (6 : Int32) → (V1108 k gh gs gr ga x9 x10 x11 x12 x13 x14 x15 x17 x18 x19 x20 x21 x22)) ∧ (x18 = (6 : Int32) → (∀ y137 : Int32, y137 = x17 &&& (3 : Int32) → ((¬ y137 = 0 → (V1108 k gh gs gr ga x9 x10 x11 x12 x13 x14 x15 x17 x18 x19 x20 x21 x22)) ∧ (y137 = 0 → ((¬ x10 = 0 → (k + 1 ≤ 10000 ∧ P_L_on gh gs gr (1 : Int32) x19 (0 : Int32) (0 : Int32) (fun (r138 : Int32) (gh139 gs140 gr141 : St) => V1020 (k + 1) gh139 gs140 gr141 ga x9 x10 x11 x12 x14 x15 x17 x19 r138))) ∧ (x10 = 0 → (V1020 k gh gs gr ga x9 x10 x11 x12 x14 x15 x17 x19 (-13 : Int32))))))))) → V987 k gh gs gr ga x9 x10 x11 x12 x13 x14 x15 x17 x18 x19 x20 x21 x22) → (∀ (k : Nat) (gh gs gr ga : St) (x9 x10 x11 x12 x14 x15 x17 x19 t0 : Int32), (∀ y167 : Int32, y167 = x17 >>> ((2 : Int32) &&& 31) → (¬ (30 : Int32) = 0 ∧ (∀ y168 : Int32, y168 = y167 - y167 / (30 : Int32) * (30 : Int32) → (k ≤ 10000 ∧ ∃ r169 : Int32, P_X4_now gh gs gr r169 ∧ (k ≤ 10000 ∧ Pn_X4_pass gh gs gr ((1 : Int32) + y168) (fun (r170 : Int32) (gh171 gs172 gr173 : St) => (¬ r170 = (r169 + ((1 : Int32) + y168)) → (V1770 k gh171 gs172 gr173 ga x9 x10 x11 x12 (0 : Int32) x14 x15 x17)) ∧ (r170 = (r169 + ((1 : Int32) + y168)) → ((x10 = 0 → (V1770 k gh171 gs172 gr173 ga x9 x10 x11 x12 (1 : Int32) x14 x15 x17)) ∧ (¬ x10 = 0 → (k + 1 ≤ 10000 ∧ P_L_on gh171 gs172 gr173 (1 : Int32) x19 (0 : Int32) (0 : Int32) (fun (r174 : Int32) (gh175 gs176 gr177 : St) => (¬ t0 = (-13 : Int32) → ((t0 ≤ ((1 : Int32) + y168) → ((¬ r174 = (0 : Int32) → (V1770 (k + 1) gh175 gs176 gr177 ga x9 x10 x11 x12 (0 : Int32) x14 x15 x17)) ∧ (r174 = (0 : Int32) → (V1770 (k + 1) gh175 gs176 gr177 ga x9 x10 x11 x12 (1 : Int32) x14 x15 x17)))) ∧ (¬ t0 ≤ ((1 : Int32) + y168) → ((¬ r174 = (t0 - ((1 : Int32) + y168)) → (V1770 (k + 1) gh175 gs176 gr177 ga x9 x10 x11 x12 (0 : Int32) x14 x15 x17)) ∧ (r174 = (t0 - ((1 : Int32) + y168)) → (V1770 (k + 1) gh175 gs176 gr177 ga x9 x10 x11 x12 (1 : Int32) x14 x15 x17)))))) ∧ (t0 = (-13 : Int32) → ((¬ r174 = (-13 : Int32) → (V1770 (k + 1) gh175 gs176 gr177 ga x9 x10 x11 x12 (0 : Int32) x14 x15 x17)) ∧ (r174 = (-13 : Int32) → (V1770 (k + 1) gh175 gs176 gr177 ga x9 x10 x11 x12 (1 : Int32) x14 x15 x17))))))))))))))) → V1020 k gh gs gr ga x9 x10 x11 x12 x14 x15 x17 x19 t0) → (∀ (k : Nat) (gh gs gr ga : St) (x9 x10 x11 x12 x13 x14 x15 x17 x18 x19 x20 x21 x22 : Int32), (((8 : Int32) ≤ x18 → (V1290 k gh gs gr ga x9 x10 x11 x12 x13 x14 x15 x17 x18 x19 x20 x21 x22)) ∧ (¬ (8 : Int32) ≤ x18 → ((x10 ≤ 0 → (V1290 k gh gs gr ga x9 x10 x11 x12 x13 x14 x15 x17 x18 x19 x20 x21 x22)) ∧ (¬ x10 ≤ 0 → (k ≤ 10000 ∧ ∃ r161 : Int32, P_X4_waiting gh gs gr r161 ∧ (k ≤ 10000 ∧ ∃ r162 : Int32, Pn_X4_tableOf gh gs gr x19 r162 ∧ ((0 ≤ r162 → (V1147 k gh gs gr ga x9 x10 x11 x12 x14 x15 x17 x19 r161)) ∧ (¬ 0 ≤ r162 → (vp_in x19 30 ∧ ((¬ (ga 2 x19.toNatClampNeg) = 0 → (V1147 k gh gs gr ga x9 x10 x11 x12 x14 x15 x17 x19 r161)) ∧ ((ga 2 x19.toNatClampNeg) = 0 → (V1148 k gh gs gr ga x9 x10 x11 x12 x14 x15 x17 x19 r161 (1 : Int32))))))))))))) → V1108 k gh gs gr ga x9 x10 x11 x12 x13 x14 x15 x17 x18 x19 x20 x21 x22) → (∀ (k : Nat) (gh gs gr ga : St) (x9 x10 x11 x12 x14 x15 x17 x19 x23 : Int32), (V1148 k gh gs gr ga x9 x10 x11 x12 x14 x15 x17 x19 x23 (0 : Int32)) → V1147 k gh gs gr ga x9 x10 x11 x12 x14 x15 x17 x19 x23) → (∀ (k : Nat) (gh gs gr ga : St) (x9 x10 x11 x12 x14 x15 x17 x19 x23 t0 : Int32), (vp_in x19 30 ∧ ((¬ (ga 2 x19.toNatClampNeg) = 0 → (V1172 k gh gs gr ga x9 x10 x11 x12 x14 x15 x17 x19 x23 t0)) ∧ ((ga 2 x19.toNatClampNeg) = 0 → (k ≤ 10000 ∧ ∃ r223 : Int32, Pn_X4_copyOf gh gs gr x19 r223 ∧ ((¬ r223 = (-1 : Int32) → (V1172 k gh gs gr ga x9 x10 x11 x12 x14 x15 x17 x19 x23 t0)) ∧ (r223 = (-1 : Int32) → (V1173 k gh gs gr ga x9 x10 x11 x12 x14 x15 x17 x19 x23 t0 (1 : Int32)))))))) → V1148 k gh gs gr ga x9 x10 x11 x12 x14 x15 x17 x19 x23 t0) → (∀ (k : Nat) (gh gs gr ga : St) (x9 x10 x11 x12 x14 x15 x17 x19 x23 x24 : Int32), (V1173 k gh gs gr ga x9 x10 x11 x12 x14 x15 x17 x19 x23 x24 (0 : Int32)) → V1172 k gh gs gr ga x9 x10 x11 x12 x14 x15 x17 x19 x23 x24) → (∀ (k : Nat) (gh gs gr ga : St) (x9 x10 x11 x12 x14 x15 x17 x19 x23 x24 t0 : Int32), (k + 1 ≤ 10000 ∧ P_L_on gh gs gr (0 : Int32) x19 (0 : Int32) (0 : Int32) (fun (r247 : Int32) (gh248 gs249 gr250 : St) => (¬ r247 = (-13 : Int32) → (V1198 (k + 1) gh248 gs249 gr250 ga x9 x10 x11 x12 x14 x15 x17 x19 x23 x24 t0 r247 (0 : Int32))) ∧ (r247 = (-13 : Int32) → (V1198 (k + 1) gh248 gs249 gr250 ga x9 x10 x11 x12 x14 x15 x17 x19 x23 x24 t0 r247 (1 : Int32))))) → V1173 k gh gs gr ga x9 x10 x11 x12 x14 x15 x17 x19 x23 x24 t0) → (∀ (k : Nat) (gh gs gr ga : St) (x9 x10 x11 x12 x14 x15 x17 x19 x23 x24 x25 x26 t0 : Int32), ((¬ x25 = 0 → (V1208 k gh gs gr ga x9 x10 x11 x12 x14 x15 x17 x19 x23 x24 x26 (0 : Int32) t0)) ∧ (x25 = 0 → (V1208 k gh gs gr ga x9 x10 x11 x12 x14 x15 x17 x19 x23 x24 x26 (1 : Int32) t0))) → V1198 k gh gs gr ga x9 x10 x11 x12 x14 x15 x17 x19 x23 x24 x25 x26 t0) → (∀ (k : Nat) (gh gs gr ga : St) (x9 x10 x11 x12 x14 x15 x17 x19 x23 x24 x26 t0 t1 : Int32), ((¬ t1 = t0 → (V1265 k gh gs gr ga x9 x10 x11 x12 x14 x15 x17 x19 x26)) ∧ (t1 = t0 → ((0 ≤ x26 → (k ≤ 10000 ∧ ∃ r302 : Int32, P_X4_waiting gh gs gr r302 ∧ ((x24 = 0 → ((¬ r302 = ((x23 - x26) - (0 : Int32)) → (V1265 k gh gs gr ga x9 x10 x11 x12 x14 x15 x17 x19 x26)) ∧ (r302 = ((x23 - x26) - (0 : Int32)) → (k ≤ 10000 ∧ ∃ r303 : Int32, Pn_X4_tableOf gh gs gr x19 r303 ∧ ((¬ r303 = (-1 : Int32) → (V1265 k gh gs gr ga x9 x10 x11 x12 x14 x15 x17 x19 x26)) ∧ (r303 = (-1 : Int32) → (V1261 k gh gs gr ga x9 x10 x11 x12 x14 x15 x17 x19 x26))))))) ∧ (¬ x24 = 0 → ((¬ r302 = ((x23 - x26) - (1 : Int32)) → (V1265 k gh gs gr ga x9 x10 x11 x12 x14 x15 x17 x19 x26)) ∧ (r302 = ((x23 - x26) - (1 : Int32)) → (k ≤ 10000 ∧ ∃ r306 : Int32, Pn_X4_tableOf gh gs gr x19 r306 ∧ ((¬ r306 = (-1 : Int32) → (V1265 k gh gs gr ga x9 x10 x11 x12 x14 x15 x17 x19 x26)) ∧ (r306 = (-1 : Int32) → (V1261 k gh gs gr ga x9 x10 x11 x12 x14 x15 x17 x19 x26)))))))))) ∧ (¬ 0 ≤ x26 → (k ≤ 10000 ∧ ∃ r310 : Int32, P_X4_waiting gh gs gr r310 ∧ ((¬ r310 = x23 → (V1265 k gh gs gr ga x9 x10 x11 x12 x14 x15 x17 x19 x26)) ∧ (r310 = x23 → (V1261 k gh gs gr ga x9 x10 x11 x12 x14 x15 x17 x19 x26)))))))) → V1208 k gh gs gr ga x9 x10 x11 x12 x14 x15 x17 x19 x23 x24 x26 t0 t1) → (∀ (k : Nat) (gh gs gr ga : St) (x9 x10 x11 x12 x14 x15 x17 x19 x26 : Int32), (V1266 k gh gs gr ga x9 x10 x11 x12 x14 x15 x17 x19 x26 (1 : Int32)) → V1261 k gh gs gr ga x9 x10 x11 x12 x14 x15 x17 x19 x26) → (∀ (k : Nat) (gh gs gr ga : St) (x9 x10 x11 x12 x14 x15 x17 x19 x26 : Int32), (V1266 k gh gs gr ga x9 x10 x11 x12 x14 x15 x17 x19 x26 (0 : Int32)) → V1265 k gh gs gr ga x9 x10 x11 x12 x14 x15 x17 x19 x26) → (∀ (k : Nat) (gh gs gr ga : St) (x9 x10 x11 x12 x14 x15 x17 x19 x26 t0 : Int32), ((0 ≤ x26 → (vp_in x19 30 ∧ (∀ g314 : St, g314 = st_set ga 2 x19.toNatClampNeg (1 : Int32) → (V1770 k gh gs gr g314 x9 x10 x11 x12 t0 x14 x15 x17)))) ∧ (¬ 0 ≤ x26 → (vp_in x19 30 ∧ (vp_in x19 30 ∧ (∀ g315 : St, g315 = st_set ga 2 x19.toNatClampNeg (ga 2 x19.toNatClampNeg) → (V1770 k gh gs gr g315 x9 x10 x11 x12 t0 x14 x15 x17)))))) → V1266 k gh gs gr ga x9 x10 x11 x12 x14 x15 x17 x19 x26 t0) → (∀ (k : Nat) (gh gs gr ga : St) (x9 x10 x11 x12 x13 x14 x15 x17 x18 x19 x20 x21 x22 : Int32), (((12 : Int32) ≤ x18 → (V1489 k gh gs gr ga x9 x10 x11 x12 x13 x14 x15 x17 x18 x19 x21 x22)) ∧ (¬ (12 : Int32) ≤ x18 → ((x10 ≤ 0 → (V1489 k gh gs gr ga x9 x10 x11 x12 x13 x14 x15 x17 x18 x19 x21 x22)) ∧ (¬ x10 ≤ 0 → ((x11 ≤ 0 → (V1489 k gh gs gr ga x9 x10 x11 x12 x13 x14 x15 x17 x18 x19 x21 x22)) ∧ (¬ x11 ≤ 0 → (k ≤ 10000 ∧ ∃ r196 : Int32, P_L_pieces gh gs gr ga x12 x22 r196 ∧ (k + 1 ≤ 10000 ∧ P_L_on gh gs gr (2 : Int32) x19 x20 (0 : Int32) (fun (r200 : Int32) (gh201 gs202 gr203 : St) => (¬ r200 = (-13 : Int32) → (vp_in r200 16 ∧ ((¬ (ga 3 r200.toNatClampNeg) = x20 → (V1461 (k + 1) gh201 gs202 gr203 ga x9 x10 x11 x12 (0 : Int32) x14 x15 x17 x22 r196)) ∧ ((ga 3 r200.toNatClampNeg) = x20 → (k + 1 ≤ 10000 ∧ ∃ r204 : Int32, Pn_X4_copyOf gh201 gs202 gr203 x19 r204 ∧ ((¬ r204 = r200 → (V1461 (k + 1) gh201 gs202 gr203 ga x9 x10 x11 x12 (0 : Int32) x14 x15 x17 x22 r196)) ∧ (r204 = r200 → (k + 1 ≤ 10000 ∧ ∃ r205 : Int32, Pn_X4_stateOf gh201 gs202 gr203 r200 r205 ∧ ((¬ r205 = (1 : Int32) → (V1461 (k + 1) gh201 gs202 gr203 ga x9 x10 x11 x12 (0 : Int32) x14 x15 x17 x22 r196)) ∧ (r205 = (1 : Int32) → (k + 1 ≤ 10000 ∧ ∃ r206 : Int32, Pn_X4_offers gh201 gs202 gr203 x19 r206 ∧ ((¬ r206 = 0 → (V1461 (k + 1) gh201 gs202 gr203 ga x9 x10 x11 x12 (0 : Int32) x14 x15 x17 x22 r196)) ∧ (r206 = 0 → (k + 1 + 1 ≤ 10000 ∧ P_L_on gh201 gs202 gr203 (2 : Int32) x19 x20 (0 : Int32) (fun (r207 : Int32) (gh208 gs209 gr210 : St) => (¬ r207 = (-13 : Int32) → (V1461 (k + 1 + 1) gh208 gs209 gr210 ga x9 x10 x11 x12 (0 : Int32) x14 x15 x17 x22 r196)) ∧ (r207 = (-13 : Int32) → (V1461 (k + 1 + 1) gh208 gs209 gr210 ga x9 x10 x11 x12 (1 : Int32) x14 x15 x17 x22 r196))))))))))))))))) ∧ (r200 = (-13 : Int32) → (¬ (4 : Int32) = 0 ∧ (∀ y216 : Int32, y216 = x15 - x15 / (4 : Int32) * (4 : Int32) → ((¬ y216 = 0 → (V1358 (k + 1) gh201 gs202 gr203 ga x9 x10 x11 x12 x13 x14 x15 x17 x19 x20 x22 r196 (0 : Int32) (0 : Int32))) ∧ (y216 = 0 → (k + 1 ≤ 10000 ∧ ∃ r217 : Int32, Pn_X4_offers gh201 gs202 gr203 x19 r217 ∧ (V1358 (k + 1) gh201 gs202 gr203 ga x9 x10 x11 x12 x13 x14 x15 x17 x19 x20 x22 r196 r217 (0 : Int32))))))))))))))))) → V1290 k gh gs gr ga x9 x10 x11 x12 x13 x14 x15 x17 x18 x19 x20 x21 x22) → (∀ (k : Nat) (gh gs gr ga : St) (x9 x10 x11 x12 x13 x14 x15 x17 x19 x20 x22 x23 x25 x26 : Int32), ((x25 ≤ x26 → (V1461 k gh gs gr ga x9 x10 x11 x12 x13 x14 x15 x17 x22 x23)) ∧ (¬ x25 ≤ x26 → ((x13 = 0 → (V1358 k gh gs gr ga x9 x10 x11 x12 (0 : Int32) x14 x15 x17 x19 x20 x22 x23 x25 (x26 + (1 : Int32)))) ∧ (¬ x13 = 0 → (k ≤ 10000 ∧ ∃ r243 : Int32, Pn_X4_offerAt gh gs gr x19 x26 r243 ∧ ((r243 = x20 → (V1358 k gh gs gr ga x9 x10 x11 x12 (0 : Int32) x14 x15 x17 x19 x20 x22 x23 x25 (x26 + (1 : Int32)))) ∧ (¬ r243 = x20 → (V1358 k gh gs gr ga x9 x10 x11 x12 (1 : Int32) x14 x15 x17 x19 x20 x22 x23 x25 (x26 + (1 : Int32)))))))))) → V1358 k gh gs gr ga x9 x10 x11 x12 x13 x14 x15 x17 x19 x20 x22 x23 x25 x26) → (∀ (k : Nat) (gh gs gr ga : St) (x9 x10 x11 x12 x13 x14 x15 x17 x22 x23 : Int32), ((x13 = 0 → (V1770 k gh gs gr ga x9 x10 x11 x12 (0 : Int32) x14 x15 x17)) ∧ (¬ x13 = 0 → (k ≤ 10000 ∧ ∃ r237 : Int32, P_L_pieces gh gs gr ga x12 x22 r237 ∧ ((¬ r237 = x23 → (V1770 k gh gs gr ga x9 x10 x11 x12 (0 : Int32) x14 x15 x17)) ∧ (r237 = x23 → (V1770 k gh gs gr ga x9 x10 x11 x12 (1 : Int32) x14 x15 x17)))))) → V1461 k gh gs gr ga x9 x10 x11 x12 x13 x14 x15 x17 x22 x23) → (∀ (k : Nat) (gh gs gr ga : St) (x9 x10 x11 x12 x13 x14 x15 x17 x18 x19 x21 x22 : Int32), (((14 : Int32) ≤ x18 → (V1672 k gh gs gr ga x9 x10 x11 x12 x13 x14 x15 x17 x18 x21 x22)) ∧ (¬ (14 : Int32) ≤ x18 → ((x10 ≤ 0 → (V1672 k gh gs gr ga x9 x10 x11 x12 x13 x14 x15 x17 x18 x21 x22)) ∧ (¬ x10 ≤ 0 → (∀ y230 : Int32, y230 = x17 >>> ((8 : Int32) &&& 31) → (∀ y231 : Int32, y231 = y230 &&& (1 : Int32) → ((¬ y231 = 0 → (∀ y232 : Int32, y232 = x17 >>> ((9 : Int32) &&& 31) → (¬ (4 : Int32) = 0 ∧ (∀ y233 : Int32, y233 = y232 - y232 / (4 : Int32) * (4 : Int32) → (V1522 k gh gs gr ga x9 x10 x11 x12 x14 x15 x17 x19 x22 y233))))) ∧ (y231 = 0 → (V1522 k gh gs gr ga x9 x10 x11 x12 x14 x15 x17 x19 x22 (0 : Int32)))))))))) → V1489 k gh gs gr ga x9 x10 x11 x12 x13 x14 x15 x17 x18 x19 x21 x22) → (∀ (k : Nat) (gh gs gr ga : St) (x9 x10 x11 x12 x14 x15 x17 x19 x22 t0 : Int32), (k ≤ 10000 ∧ ∃ r274 : Int32, Pn_X4_copyOf gh gs gr x19 r274 ∧ (k ≤ 10000 ∧ ∃ r275 : Int32, P_L_pieces gh gs gr ga x12 x22 r275 ∧ ((0 ≤ r274 → (k ≤ 10000 ∧ ∃ r279 : Int32, Pn_X4_pieces gh gs gr r274 x22 r279 ∧ (V1559 k gh gs gr ga x9 x10 x11 x12 x14 x15 x17 x19 r274 x22 t0 r275 r279))) ∧ (¬ 0 ≤ r274 → (V1559 k gh gs gr ga x9 x10 x11 x12 x14 x15 x17 x19 r274 x22 t0 r275 (0 : Int32)))))) → V1522 k gh gs gr ga x9 x10 x11 x12 x14 x15 x17 x19 x22 t0) → (∀ (k : Nat) (gh gs gr ga : St) (x9 x10 x11 x12 x14 x15 x17 x19 x21 x22 x23 x24 t0 : Int32), (k + 1 ≤ 10000 ∧ P_L_on gh gs gr (3 : Int32) x19 x22 x23 (fun (r282 : Int32) (gh283 gs284 gr285 : St) => (¬ r282 = (-13 : Int32) → ((x21 < 0 → (V1770 (k + 1) gh283 gs284 gr285 ga x9 x10 x11 x12 (0 : Int32) x14 x15 x17)) ∧ (¬ x21 < 0 → ((r282 < 0 → (V1770 (k + 1) gh283 gs284 gr285 ga x9 x10 x11 x12 (0 : Int32) x14 x15 x17)) ∧ (¬ r282 < 0 → (k + 1 ≤ 10000 ∧ ∃ r286 : Int32, Pn_X4_copyOf gh283 gs284 gr285 x19 r286 ∧ ((¬ r286 = (-1 : Int32) → (V1770 (k + 1) gh283 gs284 gr285 ga x9 x10 x11 x12 (0 : Int32) x14 x15 x17)) ∧ (r286 = (-1 : Int32) → (k + 1 ≤ 10000 ∧ ∃ r287 : Int32, Pn_X4_stateOf gh283 gs284 gr285 x21 r287 ∧ ((¬ r287 = 0 → (V1770 (k + 1) gh283 gs284 gr285 ga x9 x10 x11 x12 (0 : Int32) x14 x15 x17)) ∧ (r287 = 0 → (k + 1 ≤ 10000 ∧ ∃ r288 : Int32, P_L_pieces gh283 gs284 gr285 ga x12 x22 r288 ∧ ((¬ r288 = (x24 - x23) → (V1770 (k + 1) gh283 gs284 gr285 ga x9 x10 x11 x12 (0 : Int32) x14 x15 x17)) ∧ (r288 = (x24 - x23) → (k + 1 ≤ 10000 ∧ ∃ r292 : Int32, Pn_X4_pieces gh283 gs284 gr285 x21 x22 r292 ∧ (((t0 - x23) < r292 → (V1770 (k + 1) gh283 gs284 gr285 ga x9 x10 x11 x12 (0 : Int32) x14 x15 x17)) ∧ (¬ (t0 - x23) < r292 → (V1770 (k + 1) gh283 gs284 gr285 ga x9 x10 x11 x12 (1 : Int32) x14 x15 x17)))))))))))))))))) ∧ (r282 = (-13 : Int32) → ((x21 < 0 → (V1770 (k + 1) gh283 gs284 gr285 ga x9 x10 x11 x12 (1 : Int32) x14 x15 x17)) ∧ (¬ x21 < 0 → ((x23 ≤ t0 → (V1770 (k + 1) gh283 gs284 gr285 ga x9 x10 x11 x12 (0 : Int32) x14 x15 x17)) ∧ (¬ x23 ≤ t0 → (V1770 (k + 1) gh283 gs284 gr285 ga x9 x10 x11 x12 (1 : Int32) x14 x15 x17)))))))) → V1559 k gh gs gr ga x9 x10 x11 x12 x14 x15 x17 x19 x21 x22 x23 x24 t0) → (∀ (k : Nat) (gh gs gr ga : St) (x9 x10 x11 x12 x13 x14 x15 x17 x18 x21 x22 : Int32), ((¬ x18 = (14 : Int32) → (V1770 k gh gs gr ga x9 x10 x11 x12 x13 x14 x15 x17)) ∧ (x18 = (14 : Int32) → ((x12 ≤ 0 → (V1770 k gh gs gr ga x9 x10 x11 x12 x13 x14 x15 x17)) ∧ (¬ x12 ≤ 0 → (∀ y259 : Int32, y259 = x17 >>> ((8 : Int32) &&& 31) → (¬ (3 : Int32) = 0 ∧ (∀ y260 : Int32, y260 = y259 - y259 / (3 : Int32) * (3 : Int32) → (k ≤ 10000 ∧ ∃ r261 : Int32, Pn_X4_pieces gh gs gr x21 x22 r261 ∧ (k + 1 ≤ 10000 ∧ P_L_on gh gs gr (4 : Int32) x21 x22 ((1 : Int32) + y260) (fun (r262 : Int32) (gh263 gs264 gr265 : St) => k + 1 ≤ 10000 ∧ ∃ r266 : Int32, Pn_X4_stateOf gh263 gs264 gr265 x21 r266 ∧ ((¬ r266 = 0 → ((¬ r262 = (-13 : Int32) → (V1770 (k + 1) gh263 gs264 gr265 ga x9 x10 x11 x12 (0 : Int32) x14 x15 x17)) ∧ (r262 = (-13 : Int32) → (V1770 (k + 1) gh263 gs264 gr265 ga x9 x10 x11 x12 (1 : Int32) x14 x15 x17)))) ∧ (r266 = 0 → (vp_in x21 16 ∧ (vp_in (((4 : Int32) * (ga 3 x21.toNatClampNeg)) + x22) 32 ∧ (((ga 4 (((4 : Int32) * (ga 3 x21.toNatClampNeg)) + x22).toNatClampNeg) < (r261 + ((1 : Int32) + y260)) → ((¬ r262 = (-13 : Int32) → (V1770 (k + 1) gh263 gs264 gr265 ga x9 x10 x11 x12 (0 : Int32) x14 x15 x17)) ∧ (r262 = (-13 : Int32) → (V1770 (k + 1) gh263 gs264 gr265 ga x9 x10 x11 x12 (1 : Int32) x14 x15 x17)))) ∧ (¬ (ga 4 (((4 : Int32) * (ga 3 x21.toNatClampNeg)) + x22).toNatClampNeg) < (r261 + ((1 : Int32) + y260)) → ((¬ r262 = (r261 + ((1 : Int32) + y260)) → (V1770 (k + 1) gh263 gs264 gr265 ga x9 x10 x11 x12 (0 : Int32) x14 x15 x17)) ∧ (r262 = (r261 + ((1 : Int32) + y260)) → (V1770 (k + 1) gh263 gs264 gr265 ga x9 x10 x11 x12 (1 : Int32) x14 x15 x17))))))))))))))))))) → V1672 k gh gs gr ga x9 x10 x11 x12 x13 x14 x15 x17 x18 x21 x22) → (∀ (k : Nat) (gh gs gr ga : St) (x9 x10 x11 x12 x13 x14 x15 x17 : Int32), ((x13 = 0 → (V1836 k gh gs gr ga x9 x10 x11 x12 x14 x15 x17)) ∧ (¬ x13 = 0 → (¬ (3 : Int32) = 0 ∧ (∀ y71 : Int32, y71 = x15 - x15 / (3 : Int32) * (3 : Int32) → ((0 < y71 → (V1795 k gh gs gr ga x9 x10 x11 x12 x14 x15 x17)) ∧ (¬ 0 < y71 → (k + 30 ≤ 10000 ∧ P_L_areTables gh gs gr ga x10 (fun (r72 : Int32) (gh73 gs74 gr75 : St) => (r72 = 0 → (V1836 (k + 30) gh73 gs74 gr75 ga x9 x10 x11 x12 x14 x15 x17)) ∧ (¬ r72 = 0 → (V1795 (k + 30) gh73 gs74 gr75 ga x9 x10 x11 x12 x14 x15 x17)))))))))) → V1770 k gh gs gr ga x9 x10 x11 x12 x13 x14 x15 x17) → (∀ (k : Nat) (gh gs gr ga : St) (x9 x10 x11 x12 x14 x15 x17 : Int32), (¬ (3 : Int32) = 0 ∧ (∀ y87 : Int32, y87 = x15 - x15 / (3 : Int32) * (3 : Int32) → ((¬ y87 = (1 : Int32) → (V1818 k gh gs gr ga x9 x10 x11 x12 x14 x15 x17)) ∧ (y87 = (1 : Int32) → (k ≤ 10000 ∧ ∃ r88 : Int32, P_L_areCopies gh gs gr ga x12 x10 r88 ∧ ((r88 = 0 → (V1836 k gh gs gr ga x9 x10 x11 x12 x14 x15 x17)) ∧ (¬ r88 = 0 → (V1818 k gh gs gr ga x9 x10 x11 x12 x14 x15 x17)))))))) → V1795 k gh gs gr ga x9 x10 x11 x12 x14 x15 x17) → (∀ (k : Nat) (gh gs gr ga : St) (x9 x10 x11 x12 x14 x15 x17 : Int32), (¬ (12 : Int32) = 0 ∧ (∀ y131 : Int32, y131 = x17 - x17 / (12 : Int32) * (12 : Int32) → (k ≤ 10000 ∧ ∃ r132 : Int32, P_L_isWaste gh gs gr ga ((1 : Int32) + y131) r132 ∧ ((r132 = 0 → (V1836 k gh gs gr ga x9 x10 x11 x12 x14 x15 x17)) ∧ (¬ r132 = 0 → (V1837 k gh gs gr ga x9 x10 x11 x12 x14 x15 x17 (1 : Int32))))))) → V1818 k gh gs gr ga x9 x10 x11 x12 x14 x15 x17) → (∀ (k : Nat) (gh gs gr ga : St) (x9 x10 x11 x12 x14 x15 x17 : Int32), (V1837 k gh gs gr ga x9 x10 x11 x12 x14 x15 x17 (0 : Int32)) → V1836 k gh gs gr ga x9 x10 x11 x12 x14 x15 x17) → (∀ (k : Nat) (gh gs gr ga : St) (x9 x10 x11 x12 x14 x15 x17 t0 : Int32), ((t0 = 0 → (V116 k gh gs gr ga x9 x10 x11 x12 t0 x14 (x15 + (1 : Int32)))) ∧ (¬ t0 = 0 → ((x10 ≤ 0 → (V116 k gh gs gr ga x9 x10 x11 x12 t0 x14 (x15 + (1 : Int32)))) ∧ (¬ x10 ≤ 0 → (∀ y117 : Int32, y117 = x17 >>> ((7 : Int32) &&& 31) → (¬ x10 = 0 ∧ (∀ y118 : Int32, y118 = y117 - y117 / x10 * x10 → (k + 1 ≤ 10000 ∧ P_L_on gh gs gr (5 : Int32) y118 (0 : Int32) (0 : Int32) (fun (r119 : Int32) (gh120 gs121 gr122 : St) => k + 1 + 1 ≤ 10000 ∧ P_L_on gh120 gs121 gr122 (6 : Int32) y118 (0 : Int32) (0 : Int32) (fun (r123 : Int32) (gh124 gs125 gr126 : St) => (¬ r123 = r119 → (V116 (k + 1 + 1) gh124 gs125 gr126 ga x9 x10 x11 x12 (0 : Int32) x14 (x15 + (1 : Int32)))) ∧ (r123 = r119 → ((¬ r119 = (-13 : Int32) → (V1897 (k + 1 + 1) gh124 gs125 gr126 ga x9 x10 x11 x12 x14 x15 y118 r119 (0 : Int32))) ∧ (r119 = (-13 : Int32) → (V1897 (k + 1 + 1) gh124 gs125 gr126 ga x9 x10 x11 x12 x14 x15 y118 r119 (1 : Int32))))))))))))))) → V1837 k gh gs gr ga x9 x10 x11 x12 x14 x15 x17 t0) → (∀ (k : Nat) (gh gs gr ga : St) (x9 x10 x11 x12 x14 x15 x19 x23 t0 : Int32), (k ≤ 10000 ∧ ∃ r159 : Int32, Pn_X4_copyOf gh gs gr x19 r159 ∧ ((¬ r159 = (-1 : Int32) → (V1912 k gh gs gr ga x9 x10 x11 x12 x14 x15 x19 x23 (0 : Int32) t0)) ∧ (r159 = (-1 : Int32) → (V1912 k gh gs gr ga x9 x10 x11 x12 x14 x15 x19 x23 (1 : Int32) t0)))) → V1897 k gh gs gr ga x9 x10 x11 x12 x14 x15 x19 x23 t0) → (∀ (k : Nat) (gh gs gr ga : St) (x9 x10 x11 x12 x14 x15 x19 x23 t0 t1 : Int32), ((¬ t1 = t0 → (V116 k gh gs gr ga x9 x10 x11 x12 (0 : Int32) x14 (x15 + (1 : Int32)))) ∧ (t1 = t0 → (((100 : Int32) ≤ x23 → (V116 k gh gs gr ga x9 x10 x11 x12 (0 : Int32) x14 (x15 + (1 : Int32)))) ∧ (¬ (100 : Int32) ≤ x23 → (¬ (8 : Int32) = 0 ∧ (∀ y187 : Int32, y187 = x15 - x15 / (8 : Int32) * (8 : Int32) → ((0 < y187 → (V116 k gh gs gr ga x9 x10 x11 x12 (1 : Int32) x14 (x15 + (1 : Int32)))) ∧ (¬ 0 < y187 → (vp_in x19 30 ∧ (k + 2 ≤ 10000 ∧ P_L_areOffers gh gs gr ga x19 (ga 1 x19.toNatClampNeg) x12 (fun (r188 : Int32) (gh189 gs190 gr191 : St) => (r188 = 0 → (V116 (k + 2) gh189 gs190 gr191 ga x9 x10 x11 x12 (0 : Int32) x14 (x15 + (1 : Int32)))) ∧ (¬ r188 = 0 → (V116 (k + 2) gh189 gs190 gr191 ga x9 x10 x11 x12 (1 : Int32) x14 (x15 + (1 : Int32))))))))))))))) → V1912 k gh gs gr ga x9 x10 x11 x12 x14 x15 x19 x23 t0 t1) → (0 ≤ 10000 ∧ ∃ r1 : Int32, P_X4_now gh gs gr r1 ∧ ((¬ r1 = 0 → (V78 0 gh gs gr ga (0 : Int32) (0 : Int32) (0 : Int32) (0 : Int32))) ∧ (r1 = 0 → (0 ≤ 10000 ∧ ∃ r2 : Int32, P_X4_waiting gh gs gr r2 ∧ ((¬ r2 = 0 → (V78 0 gh gs gr ga (0 : Int32) (0 : Int32) (0 : Int32) (0 : Int32))) ∧ (r2 = 0 → (V79 0 gh gs gr ga (0 : Int32) (0 : Int32) (0 : Int32) (0 : Int32) (1 : Int32))))))))
set_option maxRecDepth 100000 in
set_option maxHeartbeats 8000000 in
theorem c_L_law {p : Program} {l : Launch} {e : Env} {s : State} {m : MethodId} {below : List Frame} {meth : Method} {c : Code} {b L : Nat} {xs : Nat → Int32} {dC : Nat → ClassId} {dI : Nat → Nat → Nat} {cI : ClassId} {b0 : Nat} {qh qs qr qa : Nat → Nat} (hE : lw_Env p l s m c b L xs dC dI cI) (hr : meth.sig.returnType = ret) (hlocks : meth.locks = false) (gh gs gr ga : St) (hp : P_L_law L xs gh gs gr ga) (H : Heap) (locs : List Loc) (ls : Array Slot) (hP : va_P (dC, dI) vwCl (wLL b0 qh qs qr qa cI gh gs gr ga) H) (hD : va_D (fun q : Nat => s.heap.size ≤ q) (wLL b0 qh qs qr qa cI gh gs gr ga)) (hS : va_S (fun q : Nat => s.heap.size ≤ q) s.heap H locs) (hl : lv_has ls 27 [(0, .ref b), (1, .ref b0), (2, .ref (qa 0)), (3, .ref (qa 1)), (4, .ref (qa 2)), (5, .ref (qa 3)), (6, .ref (qa 4)), (7, .ref (qa 5)), (8, .ref (qa 6))]) : W p l e room_1 s m #[Value.ref b] below meth c H locs (200 + 4 * 0) (4000 + 24 * 0) (lw_Z below #[Value.ref b] s) (F0 m 48 ls []) := by
  obtain ⟨hx, hb, hml, hown, hts, hX, hbl, hK, hN, hXS, hXH, hfl, hL⟩ := id hE
  have hA : ∀ q : Nat, s.heap.size ≤ q → (fun q : Nat => s.heap.size ≤ q) q := fun _ h => h
  obtain ⟨A, eA⟩ : ∃ A : Nat → Prop, A = (fun q : Nat => s.heap.size ≤ q) := ⟨_, rfl⟩
  have hbA : ¬ A b := by rw [eA]; exact Nat.not_le.mpr hbl
  rw [← eA] at hD hS hXH hA
  obtain ⟨V78, eV78⟩ : ∃ V : Nat → St → St → St → St → Int32 → Int32 → Int32 → Int32 → Prop, V = (fun k gh gs gr ga x9 x10 x11 x12 => ∀ (H : Heap) (locs : List Loc) (ls : Array Slot), va_P (dC, dI) vwCl (wLL b0 qh qs qr qa cI gh gs gr ga) H → va_D A (wLL b0 qh qs qr qa cI gh gs gr ga) → va_S A s.heap H locs → lv_has ls 27 [(0, .ref b), (1, .ref b0), (2, .ref (qa 0)), (3, .ref (qa 1)), (4, .ref (qa 2)), (5, .ref (qa 3)), (6, .ref (qa 4)), (7, .ref (qa 5)), (8, .ref (qa 6)), (9, .int x9), (10, .int x10), (11, .int x11), (12, .int x12)] → W p l e room_1 s m #[Value.ref b] below meth c H locs (200 + 4 * k) (4000 + 24 * k) (lw_Z below #[Value.ref b] s) (F0 m 78 ls [])) := ⟨_, rfl⟩
  obtain ⟨V79, eV79⟩ : ∃ V : Nat → St → St → St → St → Int32 → Int32 → Int32 → Int32 → Int32 → Prop, V = (fun k gh gs gr ga x9 x10 x11 x12 t0 => ∀ (H : Heap) (locs : List Loc) (ls : Array Slot), va_P (dC, dI) vwCl (wLL b0 qh qs qr qa cI gh gs gr ga) H → va_D A (wLL b0 qh qs qr qa cI gh gs gr ga) → va_S A s.heap H locs → lv_has ls 27 [(0, .ref b), (1, .ref b0), (2, .ref (qa 0)), (3, .ref (qa 1)), (4, .ref (qa 2)), (5, .ref (qa 3)), (6, .ref (qa 4)), (7, .ref (qa 5)), (8, .ref (qa 6)), (9, .int x9), (10, .int x10), (11, .int x11), (12, .int x12)] → W p l e room_1 s m #[Value.ref b] below meth c H locs (200 + 4 * k) (4000 + 24 * k) (lw_Z below #[Value.ref b] s) (F0 m 79 ls [.int t0])) := ⟨_, rfl⟩
  obtain ⟨V116, eV116⟩ : ∃ V : Nat → St → St → St → St → Int32 → Int32 → Int32 → Int32 → Int32 → Int32 → Int32 → Prop, V = (fun k gh gs gr ga x9 x10 x11 x12 x13 x14 x15 => ∀ (H : Heap) (locs : List Loc) (ls : Array Slot), va_P (dC, dI) vwCl (wLL b0 qh qs qr qa cI gh gs gr ga) H → va_D A (wLL b0 qh qs qr qa cI gh gs gr ga) → va_S A s.heap H locs → lv_has ls 27 [(0, .ref b), (1, .ref b0), (2, .ref (qa 0)), (3, .ref (qa 1)), (4, .ref (qa 2)), (5, .ref (qa 3)), (6, .ref (qa 4)), (7, .ref (qa 5)), (8, .ref (qa 6)), (9, .int x9), (10, .int x10), (11, .int x11), (12, .int x12), (13, .int x13), (14, .int x14), (15, .int x15)] → W p l e room_1 s m #[Value.ref b] below meth c H locs (200 + 4 * k) (4000 + 24 * k) (lw_Z below #[Value.ref b] s) (F0 m 116 ls [])) := ⟨_, rfl⟩
  obtain ⟨V160, eV160⟩ : ∃ V : Nat → St → St → St → St → Int32 → Int32 → Int32 → Int32 → Int32 → Int32 → Int32 → Int32 → Prop, V = (fun k gh gs gr ga x9 x10 x11 x12 x13 x14 x15 t0 => ∀ (H : Heap) (locs : List Loc) (ls : Array Slot), va_P (dC, dI) vwCl (wLL b0 qh qs qr qa cI gh gs gr ga) H → va_D A (wLL b0 qh qs qr qa cI gh gs gr ga) → va_S A s.heap H locs → lv_has ls 27 [(0, .ref b), (1, .ref b0), (2, .ref (qa 0)), (3, .ref (qa 1)), (4, .ref (qa 2)), (5, .ref (qa 3)), (6, .ref (qa 4)), (7, .ref (qa 5)), (8, .ref (qa 6)), (9, .int x9), (10, .int x10), (11, .int x11), (12, .int x12), (13, .int x13), (14, .int x14), (15, .int x15)] → W p l e room_1 s m #[Value.ref b] below meth c H locs (200 + 4 * k) (4000 + 24 * k) (lw_Z below #[Value.ref b] s) (F0 m 160 ls [.int t0])) := ⟨_, rfl⟩
  obtain ⟨V218, eV218⟩ : ∃ V : Nat → St → St → St → St → Int32 → Int32 → Int32 → Int32 → Int32 → Int32 → Int32 → Int32 → Int32 → Prop, V = (fun k gh gs gr ga x9 x10 x11 x12 x13 x14 x15 x17 t0 => ∀ (H : Heap) (locs : List Loc) (ls : Array Slot), va_P (dC, dI) vwCl (wLL b0 qh qs qr qa cI gh gs gr ga) H → va_D A (wLL b0 qh qs qr qa cI gh gs gr ga) → va_S A s.heap H locs → lv_has ls 27 [(0, .ref b), (1, .ref b0), (2, .ref (qa 0)), (3, .ref (qa 1)), (4, .ref (qa 2)), (5, .ref (qa 3)), (6, .ref (qa 4)), (7, .ref (qa 5)), (8, .ref (qa 6)), (9, .int x9), (10, .int x10), (11, .int x11), (12, .int x12), (13, .int x13), (14, .int x14), (15, .int x15), (17, .int x17)] → W p l e room_1 s m #[Value.ref b] below meth c H locs (200 + 4 * k) (4000 + 24 * k) (lw_Z below #[Value.ref b] s) (F0 m 218 ls [.int t0])) := ⟨_, rfl⟩
  obtain ⟨V234, eV234⟩ : ∃ V : Nat → St → St → St → St → Int32 → Int32 → Int32 → Int32 → Int32 → Int32 → Int32 → Int32 → Int32 → Int32 → Prop, V = (fun k gh gs gr ga x9 x10 x11 x12 x13 x14 x15 x17 x18 t0 => ∀ (H : Heap) (locs : List Loc) (ls : Array Slot), va_P (dC, dI) vwCl (wLL b0 qh qs qr qa cI gh gs gr ga) H → va_D A (wLL b0 qh qs qr qa cI gh gs gr ga) → va_S A s.heap H locs → lv_has ls 27 [(0, .ref b), (1, .ref b0), (2, .ref (qa 0)), (3, .ref (qa 1)), (4, .ref (qa 2)), (5, .ref (qa 3)), (6, .ref (qa 4)), (7, .ref (qa 5)), (8, .ref (qa 6)), (9, .int x9), (10, .int x10), (11, .int x11), (12, .int x12), (13, .int x13), (14, .int x14), (15, .int x15), (17, .int x17), (18, .int x18)] → W p l e room_1 s m #[Value.ref b] below meth c H locs (200 + 4 * k) (4000 + 24 * k) (lw_Z below #[Value.ref b] s) (F0 m 234 ls [.int t0])) := ⟨_, rfl⟩
  obtain ⟨V250, eV250⟩ : ∃ V : Nat → St → St → St → St → Int32 → Int32 → Int32 → Int32 → Int32 → Int32 → Int32 → Int32 → Int32 → Int32 → Int32 → Prop, V = (fun k gh gs gr ga x9 x10 x11 x12 x13 x14 x15 x17 x18 x19 t0 => ∀ (H : Heap) (locs : List Loc) (ls : Array Slot), va_P (dC, dI) vwCl (wLL b0 qh qs qr qa cI gh gs gr ga) H → va_D A (wLL b0 qh qs qr qa cI gh gs gr ga) → va_S A s.heap H locs → lv_has ls 27 [(0, .ref b), (1, .ref b0), (2, .ref (qa 0)), (3, .ref (qa 1)), (4, .ref (qa 2)), (5, .ref (qa 3)), (6, .ref (qa 4)), (7, .ref (qa 5)), (8, .ref (qa 6)), (9, .int x9), (10, .int x10), (11, .int x11), (12, .int x12), (13, .int x13), (14, .int x14), (15, .int x15), (17, .int x17), (18, .int x18), (19, .int x19)] → W p l e room_1 s m #[Value.ref b] below meth c H locs (200 + 4 * k) (4000 + 24 * k) (lw_Z below #[Value.ref b] s) (F0 m 250 ls [.int t0])) := ⟨_, rfl⟩
  obtain ⟨V266, eV266⟩ : ∃ V : Nat → St → St → St → St → Int32 → Int32 → Int32 → Int32 → Int32 → Int32 → Int32 → Int32 → Int32 → Int32 → Int32 → Int32 → Prop, V = (fun k gh gs gr ga x9 x10 x11 x12 x13 x14 x15 x17 x18 x19 x20 t0 => ∀ (H : Heap) (locs : List Loc) (ls : Array Slot), va_P (dC, dI) vwCl (wLL b0 qh qs qr qa cI gh gs gr ga) H → va_D A (wLL b0 qh qs qr qa cI gh gs gr ga) → va_S A s.heap H locs → lv_has ls 27 [(0, .ref b), (1, .ref b0), (2, .ref (qa 0)), (3, .ref (qa 1)), (4, .ref (qa 2)), (5, .ref (qa 3)), (6, .ref (qa 4)), (7, .ref (qa 5)), (8, .ref (qa 6)), (9, .int x9), (10, .int x10), (11, .int x11), (12, .int x12), (13, .int x13), (14, .int x14), (15, .int x15), (17, .int x17), (18, .int x18), (19, .int x19), (20, .int x20)] → W p l e room_1 s m #[Value.ref b] below meth c H locs (200 + 4 * k) (4000 + 24 * k) (lw_Z below #[Value.ref b] s) (F0 m 266 ls [.int t0])) := ⟨_, rfl⟩
  obtain ⟨V330, eV330⟩ : ∃ V : Nat → St → St → St → St → Int32 → Int32 → Int32 → Int32 → Int32 → Int32 → Int32 → Prop, V = (fun k gh gs gr ga x9 x10 x11 x12 x14 x15 x17 => ∀ (H : Heap) (locs : List Loc) (ls : Array Slot), va_P (dC, dI) vwCl (wLL b0 qh qs qr qa cI gh gs gr ga) H → va_D A (wLL b0 qh qs qr qa cI gh gs gr ga) → va_S A s.heap H locs → lv_has ls 27 [(0, .ref b), (1, .ref b0), (2, .ref (qa 0)), (3, .ref (qa 1)), (4, .ref (qa 2)), (5, .ref (qa 3)), (6, .ref (qa 4)), (7, .ref (qa 5)), (8, .ref (qa 6)), (9, .int x9), (10, .int x10), (11, .int x11), (12, .int x12), (14, .int x14), (15, .int x15), (17, .int x17)] → W p l e room_1 s m #[Value.ref b] below meth c H locs (200 + 4 * k) (4000 + 24 * k) (lw_Z below #[Value.ref b] s) (F0 m 330 ls [])) := ⟨_, rfl⟩
  obtain ⟨V331, eV331⟩ : ∃ V : Nat → St → St → St → St → Int32 → Int32 → Int32 → Int32 → Int32 → Int32 → Int32 → Int32 → Prop, V = (fun k gh gs gr ga x9 x10 x11 x12 x14 x15 x17 t0 => ∀ (H : Heap) (locs : List Loc) (ls : Array Slot), va_P (dC, dI) vwCl (wLL b0 qh qs qr qa cI gh gs gr ga) H → va_D A (wLL b0 qh qs qr qa cI gh gs gr ga) → va_S A s.heap H locs → lv_has ls 27 [(0, .ref b), (1, .ref b0), (2, .ref (qa 0)), (3, .ref (qa 1)), (4, .ref (qa 2)), (5, .ref (qa 3)), (6, .ref (qa 4)), (7, .ref (qa 5)), (8, .ref (qa 6)), (9, .int x9), (10, .int x10), (11, .int x11), (12, .int x12), (14, .int x14), (15, .int x15), (17, .int x17)] → W p l e room_1 s m #[Value.ref b] below meth c H locs (200 + 4 * k) (4000 + 24 * k) (lw_Z below #[Value.ref b] s) (F0 m 331 ls [.int t0])) := ⟨_, rfl⟩
  obtain ⟨V339, eV339⟩ : ∃ V : Nat → St → St → St → St → Int32 → Int32 → Int32 → Int32 → Int32 → Int32 → Int32 → Int32 → Int32 → Int32 → Int32 → Int32 → Int32 → Prop, V = (fun k gh gs gr ga x9 x10 x11 x12 x13 x14 x15 x17 x18 x19 x20 x21 x22 => ∀ (H : Heap) (locs : List Loc) (ls : Array Slot), va_P (dC, dI) vwCl (wLL b0 qh qs qr qa cI gh gs gr ga) H → va_D A (wLL b0 qh qs qr qa cI gh gs gr ga) → va_S A s.heap H locs → lv_has ls 27 [(0, .ref b), (1, .ref b0), (2, .ref (qa 0)), (3, .ref (qa 1)), (4, .ref (qa 2)), (5, .ref (qa 3)), (6, .ref (qa 4)), (7, .ref (qa 5)), (8, .ref (qa 6)), (9, .int x9), (10, .int x10), (11, .int x11), (12, .int x12), (13, .int x13), (14, .int x14), (15, .int x15), (17, .int x17), (18, .int x18), (19, .int x19), (20, .int x20), (21, .int x21), (22, .int x22)] → W p l e room_1 s m #[Value.ref b] below meth c H locs (200 + 4 * k) (4000 + 24 * k) (lw_Z below #[Value.ref b] s) (F0 m 339 ls [])) := ⟨_, rfl⟩
  obtain ⟨V421, eV421⟩ : ∃ V : Nat → St → St → St → St → Int32 → Int32 → Int32 → Int32 → Int32 → Int32 → Int32 → Int32 → Prop, V = (fun k gh gs gr ga x9 x10 x11 x12 x14 x15 x17 x23 => ∀ (H : Heap) (locs : List Loc) (ls : Array Slot), va_P (dC, dI) vwCl (wLL b0 qh qs qr qa cI gh gs gr ga) H → va_D A (wLL b0 qh qs qr qa cI gh gs gr ga) → va_S A s.heap H locs → lv_has ls 27 [(0, .ref b), (1, .ref b0), (2, .ref (qa 0)), (3, .ref (qa 1)), (4, .ref (qa 2)), (5, .ref (qa 3)), (6, .ref (qa 4)), (7, .ref (qa 5)), (8, .ref (qa 6)), (9, .int x9), (10, .int x10), (11, .int x11), (12, .int x12), (14, .int x14), (15, .int x15), (17, .int x17), (23, .int x23)] → W p l e room_1 s m #[Value.ref b] below meth c H locs (200 + 4 * k) (4000 + 24 * k) (lw_Z below #[Value.ref b] s) (F0 m 421 ls [])) := ⟨_, rfl⟩
  obtain ⟨V549, eV549⟩ : ∃ V : Nat → St → St → St → St → Int32 → Int32 → Int32 → Int32 → Int32 → Int32 → Int32 → Int32 → Int32 → Int32 → Int32 → Int32 → Int32 → Prop, V = (fun k gh gs gr ga x9 x10 x11 x12 x13 x14 x15 x17 x18 x19 x20 x21 x22 => ∀ (H : Heap) (locs : List Loc) (ls : Array Slot), va_P (dC, dI) vwCl (wLL b0 qh qs qr qa cI gh gs gr ga) H → va_D A (wLL b0 qh qs qr qa cI gh gs gr ga) → va_S A s.heap H locs → lv_has ls 27 [(0, .ref b), (1, .ref b0), (2, .ref (qa 0)), (3, .ref (qa 1)), (4, .ref (qa 2)), (5, .ref (qa 3)), (6, .ref (qa 4)), (7, .ref (qa 5)), (8, .ref (qa 6)), (9, .int x9), (10, .int x10), (11, .int x11), (12, .int x12), (13, .int x13), (14, .int x14), (15, .int x15), (17, .int x17), (18, .int x18), (19, .int x19), (20, .int x20), (21, .int x21), (22, .int x22)] → W p l e room_1 s m #[Value.ref b] below meth c H locs (200 + 4 * k) (4000 + 24 * k) (lw_Z below #[Value.ref b] s) (F0 m 549 ls [])) := ⟨_, rfl⟩
  obtain ⟨V611, eV611⟩ : ∃ V : Nat → St → St → St → St → Int32 → Int32 → Int32 → Int32 → Int32 → Int32 → Int32 → Int32 → Int32 → Int32 → Int32 → Int32 → Int32 → Prop, V = (fun k gh gs gr ga x9 x10 x11 x12 x13 x14 x15 x17 x18 x19 x20 x21 x22 => ∀ (H : Heap) (locs : List Loc) (ls : Array Slot), va_P (dC, dI) vwCl (wLL b0 qh qs qr qa cI gh gs gr ga) H → va_D A (wLL b0 qh qs qr qa cI gh gs gr ga) → va_S A s.heap H locs → lv_has ls 27 [(0, .ref b), (1, .ref b0), (2, .ref (qa 0)), (3, .ref (qa 1)), (4, .ref (qa 2)), (5, .ref (qa 3)), (6, .ref (qa 4)), (7, .ref (qa 5)), (8, .ref (qa 6)), (9, .int x9), (10, .int x10), (11, .int x11), (12, .int x12), (13, .int x13), (14, .int x14), (15, .int x15), (17, .int x17), (18, .int x18), (19, .int x19), (20, .int x20), (21, .int x21), (22, .int x22)] → W p l e room_1 s m #[Value.ref b] below meth c H locs (200 + 4 * k) (4000 + 24 * k) (lw_Z below #[Value.ref b] s) (F0 m 611 ls [])) := ⟨_, rfl⟩
  obtain ⟨V644, eV644⟩ : ∃ V : Nat → St → St → St → St → Int32 → Int32 → Int32 → Int32 → Int32 → Int32 → Int32 → Int32 → Prop, V = (fun k gh gs gr ga x9 x10 x11 x12 x14 x15 x17 x20 => ∀ (H : Heap) (locs : List Loc) (ls : Array Slot), va_P (dC, dI) vwCl (wLL b0 qh qs qr qa cI gh gs gr ga) H → va_D A (wLL b0 qh qs qr qa cI gh gs gr ga) → va_S A s.heap H locs → lv_has ls 27 [(0, .ref b), (1, .ref b0), (2, .ref (qa 0)), (3, .ref (qa 1)), (4, .ref (qa 2)), (5, .ref (qa 3)), (6, .ref (qa 4)), (7, .ref (qa 5)), (8, .ref (qa 6)), (9, .int x9), (10, .int x10), (11, .int x11), (12, .int x12), (14, .int x14), (15, .int x15), (17, .int x17), (20, .int x20)] → W p l e room_1 s m #[Value.ref b] below meth c H locs (200 + 4 * k) (4000 + 24 * k) (lw_Z below #[Value.ref b] s) (F0 m 644 ls [])) := ⟨_, rfl⟩
  obtain ⟨V658, eV658⟩ : ∃ V : Nat → St → St → St → St → Int32 → Int32 → Int32 → Int32 → Int32 → Int32 → Int32 → Int32 → Int32 → Prop, V = (fun k gh gs gr ga x9 x10 x11 x12 x14 x15 x17 x20 t0 => ∀ (H : Heap) (locs : List Loc) (ls : Array Slot), va_P (dC, dI) vwCl (wLL b0 qh qs qr qa cI gh gs gr ga) H → va_D A (wLL b0 qh qs qr qa cI gh gs gr ga) → va_S A s.heap H locs → lv_has ls 27 [(0, .ref b), (1, .ref b0), (2, .ref (qa 0)), (3, .ref (qa 1)), (4, .ref (qa 2)), (5, .ref (qa 3)), (6, .ref (qa 4)), (7, .ref (qa 5)), (8, .ref (qa 6)), (9, .int x9), (10, .int x10), (11, .int x11), (12, .int x12), (14, .int x14), (15, .int x15), (17, .int x17), (20, .int x20)] → W p l e room_1 s m #[Value.ref b] below meth c H locs (200 + 4 * k) (4000 + 24 * k) (lw_Z below #[Value.ref b] s) (F0 m 658 ls [.int t0])) := ⟨_, rfl⟩
  obtain ⟨V749, eV749⟩ : ∃ V : Nat → St → St → St → St → Int32 → Int32 → Int32 → Int32 → Int32 → Int32 → Int32 → Int32 → Int32 → Int32 → Prop, V = (fun k gh gs gr ga x9 x10 x11 x12 x14 x15 x17 x20 t0 t1 => ∀ (H : Heap) (locs : List Loc) (ls : Array Slot), va_P (dC, dI) vwCl (wLL b0 qh qs qr qa cI gh gs gr ga) H → va_D A (wLL b0 qh qs qr qa cI gh gs gr ga) → va_S A s.heap H locs → lv_has ls 27 [(0, .ref b), (1, .ref b0), (2, .ref (qa 0)), (3, .ref (qa 1)), (4, .ref (qa 2)), (5, .ref (qa 3)), (6, .ref (qa 4)), (7, .ref (qa 5)), (8, .ref (qa 6)), (9, .int x9), (10, .int x10), (11, .int x11), (12, .int x12), (14, .int x14), (15, .int x15), (17, .int x17), (20, .int x20)] → W p l e room_1 s m #[Value.ref b] below meth c H locs (200 + 4 * k) (4000 + 24 * k) (lw_Z below #[Value.ref b] s) (F0 m 749 ls [.int t0, .int t1])) := ⟨_, rfl⟩
  obtain ⟨V756, eV756⟩ : ∃ V : Nat → St → St → St → St → Int32 → Int32 → Int32 → Int32 → Int32 → Int32 → Int32 → Int32 → Prop, V = (fun k gh gs gr ga x9 x10 x11 x12 x14 x15 x17 x20 => ∀ (H : Heap) (locs : List Loc) (ls : Array Slot), va_P (dC, dI) vwCl (wLL b0 qh qs qr qa cI gh gs gr ga) H → va_D A (wLL b0 qh qs qr qa cI gh gs gr ga) → va_S A s.heap H locs → lv_has ls 27 [(0, .ref b), (1, .ref b0), (2, .ref (qa 0)), (3, .ref (qa 1)), (4, .ref (qa 2)), (5, .ref (qa 3)), (6, .ref (qa 4)), (7, .ref (qa 5)), (8, .ref (qa 6)), (9, .int x9), (10, .int x10), (11, .int x11), (12, .int x12), (14, .int x14), (15, .int x15), (17, .int x17), (20, .int x20)] → W p l e room_1 s m #[Value.ref b] below meth c H locs (200 + 4 * k) (4000 + 24 * k) (lw_Z below #[Value.ref b] s) (F0 m 756 ls [])) := ⟨_, rfl⟩
  obtain ⟨V757, eV757⟩ : ∃ V : Nat → St → St → St → St → Int32 → Int32 → Int32 → Int32 → Int32 → Int32 → Int32 → Int32 → Int32 → Prop, V = (fun k gh gs gr ga x9 x10 x11 x12 x14 x15 x17 x20 t0 => ∀ (H : Heap) (locs : List Loc) (ls : Array Slot), va_P (dC, dI) vwCl (wLL b0 qh qs qr qa cI gh gs gr ga) H → va_D A (wLL b0 qh qs qr qa cI gh gs gr ga) → va_S A s.heap H locs → lv_has ls 27 [(0, .ref b), (1, .ref b0), (2, .ref (qa 0)), (3, .ref (qa 1)), (4, .ref (qa 2)), (5, .ref (qa 3)), (6, .ref (qa 4)), (7, .ref (qa 5)), (8, .ref (qa 6)), (9, .int x9), (10, .int x10), (11, .int x11), (12, .int x12), (14, .int x14), (15, .int x15), (17, .int x17), (20, .int x20)] → W p l e room_1 s m #[Value.ref b] below meth c H locs (200 + 4 * k) (4000 + 24 * k) (lw_Z below #[Value.ref b] s) (F0 m 757 ls [.int t0])) := ⟨_, rfl⟩
  obtain ⟨V771, eV771⟩ : ∃ V : Nat → St → St → St → St → Int32 → Int32 → Int32 → Int32 → Int32 → Int32 → Int32 → Int32 → Int32 → Int32 → Int32 → Int32 → Int32 → Prop, V = (fun k gh gs gr ga x9 x10 x11 x12 x13 x14 x15 x17 x18 x19 x20 x21 x22 => ∀ (H : Heap) (locs : List Loc) (ls : Array Slot), va_P (dC, dI) vwCl (wLL b0 qh qs qr qa cI gh gs gr ga) H → va_D A (wLL b0 qh qs qr qa cI gh gs gr ga) → va_S A s.heap H locs → lv_has ls 27 [(0, .ref b), (1, .ref b0), (2, .ref (qa 0)), (3, .ref (qa 1)), (4, .ref (qa 2)), (5, .ref (qa 3)), (6, .ref (qa 4)), (7, .ref (qa 5)), (8, .ref (qa 6)), (9, .int x9), (10, .int x10), (11, .int x11), (12, .int x12), (13, .int x13), (14, .int x14), (15, .int x15), (17, .int x17), (18, .int x18), (19, .int x19), (20, .int x20), (21, .int x21), (22, .int x22)] → W p l e room_1 s m #[Value.ref b] below meth c H locs (200 + 4 * k) (4000 + 24 * k) (lw_Z below #[Value.ref b] s) (F0 m 771 ls [])) := ⟨_, rfl⟩
  obtain ⟨V806, eV806⟩ : ∃ V : Nat → St → St → St → St → Int32 → Int32 → Int32 → Int32 → Int32 → Int32 → Int32 → Int32 → Int32 → Int32 → Int32 → Prop, V = (fun k gh gs gr ga x9 x10 x11 x12 x14 x15 x17 t0 t1 t2 t3 => ∀ (H : Heap) (locs : List Loc) (ls : Array Slot), va_P (dC, dI) vwCl (wLL b0 qh qs qr qa cI gh gs gr ga) H → va_D A (wLL b0 qh qs qr qa cI gh gs gr ga) → va_S A s.heap H locs → lv_has ls 27 [(0, .ref b), (1, .ref b0), (2, .ref (qa 0)), (3, .ref (qa 1)), (4, .ref (qa 2)), (5, .ref (qa 3)), (6, .ref (qa 4)), (7, .ref (qa 5)), (8, .ref (qa 6)), (9, .int x9), (10, .int x10), (11, .int x11), (12, .int x12), (14, .int x14), (15, .int x15), (17, .int x17)] → W p l e room_1 s m #[Value.ref b] below meth c H locs (200 + 4 * k) (4000 + 24 * k) (lw_Z below #[Value.ref b] s) (F0 m 806 ls [.int t0, .int t1, .int t2, .int t3, .ref (qa 1)])) := ⟨_, rfl⟩
  obtain ⟨V866, eV866⟩ : ∃ V : Nat → St → St → St → St → Int32 → Int32 → Int32 → Int32 → Int32 → Int32 → Int32 → Int32 → Int32 → Int32 → Prop, V = (fun k gh gs gr ga x9 x10 x11 x12 x14 x15 x17 x23 x24 t0 => ∀ (H : Heap) (locs : List Loc) (ls : Array Slot), va_P (dC, dI) vwCl (wLL b0 qh qs qr qa cI gh gs gr ga) H → va_D A (wLL b0 qh qs qr qa cI gh gs gr ga) → va_S A s.heap H locs → lv_has ls 27 [(0, .ref b), (1, .ref b0), (2, .ref (qa 0)), (3, .ref (qa 1)), (4, .ref (qa 2)), (5, .ref (qa 3)), (6, .ref (qa 4)), (7, .ref (qa 5)), (8, .ref (qa 6)), (9, .int x9), (10, .int x10), (11, .int x11), (12, .int x12), (14, .int x14), (15, .int x15), (17, .int x17), (23, .int x23), (24, .int x24)] → W p l e room_1 s m #[Value.ref b] below meth c H locs (200 + 4 * k) (4000 + 24 * k) (lw_Z below #[Value.ref b] s) (F0 m 866 ls [.int t0])) := ⟨_, rfl⟩
  obtain ⟨V876, eV876⟩ : ∃ V : Nat → St → St → St → St → Int32 → Int32 → Int32 → Int32 → Int32 → Int32 → Int32 → Int32 → Int32 → Int32 → Int32 → Prop, V = (fun k gh gs gr ga x9 x10 x11 x12 x14 x15 x17 x23 x24 t0 t1 => ∀ (H : Heap) (locs : List Loc) (ls : Array Slot), va_P (dC, dI) vwCl (wLL b0 qh qs qr qa cI gh gs gr ga) H → va_D A (wLL b0 qh qs qr qa cI gh gs gr ga) → va_S A s.heap H locs → lv_has ls 27 [(0, .ref b), (1, .ref b0), (2, .ref (qa 0)), (3, .ref (qa 1)), (4, .ref (qa 2)), (5, .ref (qa 3)), (6, .ref (qa 4)), (7, .ref (qa 5)), (8, .ref (qa 6)), (9, .int x9), (10, .int x10), (11, .int x11), (12, .int x12), (14, .int x14), (15, .int x15), (17, .int x17), (23, .int x23), (24, .int x24)] → W p l e room_1 s m #[Value.ref b] below meth c H locs (200 + 4 * k) (4000 + 24 * k) (lw_Z below #[Value.ref b] s) (F0 m 876 ls [.int t0, .int t1])) := ⟨_, rfl⟩
  obtain ⟨V895, eV895⟩ : ∃ V : Nat → St → St → St → St → Int32 → Int32 → Int32 → Int32 → Int32 → Int32 → Int32 → Int32 → Int32 → Int32 → Int32 → Prop, V = (fun k gh gs gr ga x9 x10 x11 x12 x14 x15 x17 x23 t0 t1 t2 => ∀ (H : Heap) (locs : List Loc) (ls : Array Slot), va_P (dC, dI) vwCl (wLL b0 qh qs qr qa cI gh gs gr ga) H → va_D A (wLL b0 qh qs qr qa cI gh gs gr ga) → va_S A s.heap H locs → lv_has ls 27 [(0, .ref b), (1, .ref b0), (2, .ref (qa 0)), (3, .ref (qa 1)), (4, .ref (qa 2)), (5, .ref (qa 3)), (6, .ref (qa 4)), (7, .ref (qa 5)), (8, .ref (qa 6)), (9, .int x9), (10, .int x10), (11, .int x11), (12, .int x12), (14, .int x14), (15, .int x15), (17, .int x17), (23, .int x23)] → W p l e room_1 s m #[Value.ref b] below meth c H locs (200 + 4 * k) (4000 + 24 * k) (lw_Z below #[Value.ref b] s) (F0 m 895 ls [.int t0, .int t1, .int t2])) := ⟨_, rfl⟩
  obtain ⟨V903, eV903⟩ : ∃ V : Nat → St → St → St → St → Int32 → Int32 → Int32 → Int32 → Int32 → Int32 → Int32 → Int32 → Prop, V = (fun k gh gs gr ga x9 x10 x11 x12 x14 x15 x17 x23 => ∀ (H : Heap) (locs : List Loc) (ls : Array Slot), va_P (dC, dI) vwCl (wLL b0 qh qs qr qa cI gh gs gr ga) H → va_D A (wLL b0 qh qs qr qa cI gh gs gr ga) → va_S A s.heap H locs → lv_has ls 27 [(0, .ref b), (1, .ref b0), (2, .ref (qa 0)), (3, .ref (qa 1)), (4, .ref (qa 2)), (5, .ref (qa 3)), (6, .ref (qa 4)), (7, .ref (qa 5)), (8, .ref (qa 6)), (9, .int x9), (10, .int x10), (11, .int x11), (12, .int x12), (14, .int x14), (15, .int x15), (17, .int x17), (23, .int x23)] → W p l e room_1 s m #[Value.ref b] below meth c H locs (200 + 4 * k) (4000 + 24 * k) (lw_Z below #[Value.ref b] s) (F0 m 903 ls [])) := ⟨_, rfl⟩
  obtain ⟨V904, eV904⟩ : ∃ V : Nat → St → St → St → St → Int32 → Int32 → Int32 → Int32 → Int32 → Int32 → Int32 → Int32 → Int32 → Prop, V = (fun k gh gs gr ga x9 x10 x11 x12 x14 x15 x17 x23 t0 => ∀ (H : Heap) (locs : List Loc) (ls : Array Slot), va_P (dC, dI) vwCl (wLL b0 qh qs qr qa cI gh gs gr ga) H → va_D A (wLL b0 qh qs qr qa cI gh gs gr ga) → va_S A s.heap H locs → lv_has ls 27 [(0, .ref b), (1, .ref b0), (2, .ref (qa 0)), (3, .ref (qa 1)), (4, .ref (qa 2)), (5, .ref (qa 3)), (6, .ref (qa 4)), (7, .ref (qa 5)), (8, .ref (qa 6)), (9, .int x9), (10, .int x10), (11, .int x11), (12, .int x12), (14, .int x14), (15, .int x15), (17, .int x17), (23, .int x23)] → W p l e room_1 s m #[Value.ref b] below meth c H locs (200 + 4 * k) (4000 + 24 * k) (lw_Z below #[Value.ref b] s) (F0 m 904 ls [.int t0])) := ⟨_, rfl⟩
  obtain ⟨V919, eV919⟩ : ∃ V : Nat → St → St → St → St → Int32 → Int32 → Int32 → Int32 → Int32 → Int32 → Int32 → Int32 → Int32 → Int32 → Int32 → Prop, V = (fun k gh gs gr ga x9 x10 x11 x12 x13 x14 x15 x17 x23 x25 x26 => ∀ (H : Heap) (locs : List Loc) (ls : Array Slot), va_P (dC, dI) vwCl (wLL b0 qh qs qr qa cI gh gs gr ga) H → va_D A (wLL b0 qh qs qr qa cI gh gs gr ga) → va_S A s.heap H locs → lv_has ls 27 [(0, .ref b), (1, .ref b0), (2, .ref (qa 0)), (3, .ref (qa 1)), (4, .ref (qa 2)), (5, .ref (qa 3)), (6, .ref (qa 4)), (7, .ref (qa 5)), (8, .ref (qa 6)), (9, .int x9), (10, .int x10), (11, .int x11), (12, .int x12), (13, .int x13), (14, .int x14), (15, .int x15), (17, .int x17), (23, .int x23), (25, .int x25), (26, .int x26)] → W p l e room_1 s m #[Value.ref b] below meth c H locs (200 + 4 * k) (4000 + 24 * k) (lw_Z below #[Value.ref b] s) (F0 m 919 ls [])) := ⟨_, rfl⟩
  obtain ⟨V987, eV987⟩ : ∃ V : Nat → St → St → St → St → Int32 → Int32 → Int32 → Int32 → Int32 → Int32 → Int32 → Int32 → Int32 → Int32 → Int32 → Int32 → Int32 → Prop, V = (fun k gh gs gr ga x9 x10 x11 x12 x13 x14 x15 x17 x18 x19 x20 x21 x22 => ∀ (H : Heap) (locs : List Loc) (ls : Array Slot), va_P (dC, dI) vwCl (wLL b0 qh qs qr qa cI gh gs gr ga) H → va_D A (wLL b0 qh qs qr qa cI gh gs gr ga) → va_S A s.heap H locs → lv_has ls 27 [(0, .ref b), (1, .ref b0), (2, .ref (qa 0)), (3, .ref (qa 1)), (4, .ref (qa 2)), (5, .ref (qa 3)), (6, .ref (qa 4)), (7, .ref (qa 5)), (8, .ref (qa 6)), (9, .int x9), (10, .int x10), (11, .int x11), (12, .int x12), (13, .int x13), (14, .int x14), (15, .int x15), (17, .int x17), (18, .int x18), (19, .int x19), (20, .int x20), (21, .int x21), (22, .int x22)] → W p l e room_1 s m #[Value.ref b] below meth c H locs (200 + 4 * k) (4000 + 24 * k) (lw_Z below #[Value.ref b] s) (F0 m 987 ls [])) := ⟨_, rfl⟩
  obtain ⟨V1020, eV1020⟩ : ∃ V : Nat → St → St → St → St → Int32 → Int32 → Int32 → Int32 → Int32 → Int32 → Int32 → Int32 → Int32 → Prop, V = (fun k gh gs gr ga x9 x10 x11 x12 x14 x15 x17 x19 t0 => ∀ (H : Heap) (locs : List Loc) (ls : Array Slot), va_P (dC, dI) vwCl (wLL b0 qh qs qr qa cI gh gs gr ga) H → va_D A (wLL b0 qh qs qr qa cI gh gs gr ga) → va_S A s.heap H locs → lv_has ls 27 [(0, .ref b), (1, .ref b0), (2, .ref (qa 0)), (3, .ref (qa 1)), (4, .ref (qa 2)), (5, .ref (qa 3)), (6, .ref (qa 4)), (7, .ref (qa 5)), (8, .ref (qa 6)), (9, .int x9), (10, .int x10), (11, .int x11), (12, .int x12), (14, .int x14), (15, .int x15), (17, .int x17), (19, .int x19)] → W p l e room_1 s m #[Value.ref b] below meth c H locs (200 + 4 * k) (4000 + 24 * k) (lw_Z below #[Value.ref b] s) (F0 m 1020 ls [.int t0])) := ⟨_, rfl⟩
  obtain ⟨V1108, eV1108⟩ : ∃ V : Nat → St → St → St → St → Int32 → Int32 → Int32 → Int32 → Int32 → Int32 → Int32 → Int32 → Int32 → Int32 → Int32 → Int32 → Int32 → Prop, V = (fun k gh gs gr ga x9 x10 x11 x12 x13 x14 x15 x17 x18 x19 x20 x21 x22 => ∀ (H : Heap) (locs : List Loc) (ls : Array Slot), va_P (dC, dI) vwCl (wLL b0 qh qs qr qa cI gh gs gr ga) H → va_D A (wLL b0 qh qs qr qa cI gh gs gr ga) → va_S A s.heap H locs → lv_has ls 27 [(0, .ref b), (1, .ref b0), (2, .ref (qa 0)), (3, .ref (qa 1)), (4, .ref (qa 2)), (5, .ref (qa 3)), (6, .ref (qa 4)), (7, .ref (qa 5)), (8, .ref (qa 6)), (9, .int x9), (10, .int x10), (11, .int x11), (12, .int x12), (13, .int x13), (14, .int x14), (15, .int x15), (17, .int x17), (18, .int x18), (19, .int x19), (20, .int x20), (21, .int x21), (22, .int x22)] → W p l e room_1 s m #[Value.ref b] below meth c H locs (200 + 4 * k) (4000 + 24 * k) (lw_Z below #[Value.ref b] s) (F0 m 1108 ls [])) := ⟨_, rfl⟩
  obtain ⟨V1147, eV1147⟩ : ∃ V : Nat → St → St → St → St → Int32 → Int32 → Int32 → Int32 → Int32 → Int32 → Int32 → Int32 → Int32 → Prop, V = (fun k gh gs gr ga x9 x10 x11 x12 x14 x15 x17 x19 x23 => ∀ (H : Heap) (locs : List Loc) (ls : Array Slot), va_P (dC, dI) vwCl (wLL b0 qh qs qr qa cI gh gs gr ga) H → va_D A (wLL b0 qh qs qr qa cI gh gs gr ga) → va_S A s.heap H locs → lv_has ls 27 [(0, .ref b), (1, .ref b0), (2, .ref (qa 0)), (3, .ref (qa 1)), (4, .ref (qa 2)), (5, .ref (qa 3)), (6, .ref (qa 4)), (7, .ref (qa 5)), (8, .ref (qa 6)), (9, .int x9), (10, .int x10), (11, .int x11), (12, .int x12), (14, .int x14), (15, .int x15), (17, .int x17), (19, .int x19), (23, .int x23)] → W p l e room_1 s m #[Value.ref b] below meth c H locs (200 + 4 * k) (4000 + 24 * k) (lw_Z below #[Value.ref b] s) (F0 m 1147 ls [])) := ⟨_, rfl⟩
  obtain ⟨V1148, eV1148⟩ : ∃ V : Nat → St → St → St → St → Int32 → Int32 → Int32 → Int32 → Int32 → Int32 → Int32 → Int32 → Int32 → Int32 → Prop, V = (fun k gh gs gr ga x9 x10 x11 x12 x14 x15 x17 x19 x23 t0 => ∀ (H : Heap) (locs : List Loc) (ls : Array Slot), va_P (dC, dI) vwCl (wLL b0 qh qs qr qa cI gh gs gr ga) H → va_D A (wLL b0 qh qs qr qa cI gh gs gr ga) → va_S A s.heap H locs → lv_has ls 27 [(0, .ref b), (1, .ref b0), (2, .ref (qa 0)), (3, .ref (qa 1)), (4, .ref (qa 2)), (5, .ref (qa 3)), (6, .ref (qa 4)), (7, .ref (qa 5)), (8, .ref (qa 6)), (9, .int x9), (10, .int x10), (11, .int x11), (12, .int x12), (14, .int x14), (15, .int x15), (17, .int x17), (19, .int x19), (23, .int x23)] → W p l e room_1 s m #[Value.ref b] below meth c H locs (200 + 4 * k) (4000 + 24 * k) (lw_Z below #[Value.ref b] s) (F0 m 1148 ls [.int t0])) := ⟨_, rfl⟩
  obtain ⟨V1172, eV1172⟩ : ∃ V : Nat → St → St → St → St → Int32 → Int32 → Int32 → Int32 → Int32 → Int32 → Int32 → Int32 → Int32 → Int32 → Prop, V = (fun k gh gs gr ga x9 x10 x11 x12 x14 x15 x17 x19 x23 x24 => ∀ (H : Heap) (locs : List Loc) (ls : Array Slot), va_P (dC, dI) vwCl (wLL b0 qh qs qr qa cI gh gs gr ga) H → va_D A (wLL b0 qh qs qr qa cI gh gs gr ga) → va_S A s.heap H locs → lv_has ls 27 [(0, .ref b), (1, .ref b0), (2, .ref (qa 0)), (3, .ref (qa 1)), (4, .ref (qa 2)), (5, .ref (qa 3)), (6, .ref (qa 4)), (7, .ref (qa 5)), (8, .ref (qa 6)), (9, .int x9), (10, .int x10), (11, .int x11), (12, .int x12), (14, .int x14), (15, .int x15), (17, .int x17), (19, .int x19), (23, .int x23), (24, .int x24)] → W p l e room_1 s m #[Value.ref b] below meth c H locs (200 + 4 * k) (4000 + 24 * k) (lw_Z below #[Value.ref b] s) (F0 m 1172 ls [])) := ⟨_, rfl⟩
  obtain ⟨V1173, eV1173⟩ : ∃ V : Nat → St → St → St → St → Int32 → Int32 → Int32 → Int32 → Int32 → Int32 → Int32 → Int32 → Int32 → Int32 → Int32 → Prop, V = (fun k gh gs gr ga x9 x10 x11 x12 x14 x15 x17 x19 x23 x24 t0 => ∀ (H : Heap) (locs : List Loc) (ls : Array Slot), va_P (dC, dI) vwCl (wLL b0 qh qs qr qa cI gh gs gr ga) H → va_D A (wLL b0 qh qs qr qa cI gh gs gr ga) → va_S A s.heap H locs → lv_has ls 27 [(0, .ref b), (1, .ref b0), (2, .ref (qa 0)), (3, .ref (qa 1)), (4, .ref (qa 2)), (5, .ref (qa 3)), (6, .ref (qa 4)), (7, .ref (qa 5)), (8, .ref (qa 6)), (9, .int x9), (10, .int x10), (11, .int x11), (12, .int x12), (14, .int x14), (15, .int x15), (17, .int x17), (19, .int x19), (23, .int x23), (24, .int x24)] → W p l e room_1 s m #[Value.ref b] below meth c H locs (200 + 4 * k) (4000 + 24 * k) (lw_Z below #[Value.ref b] s) (F0 m 1173 ls [.int t0])) := ⟨_, rfl⟩
  obtain ⟨V1198, eV1198⟩ : ∃ V : Nat → St → St → St → St → Int32 → Int32 → Int32 → Int32 → Int32 → Int32 → Int32 → Int32 → Int32 → Int32 → Int32 → Int32 → Int32 → Prop, V = (fun k gh gs gr ga x9 x10 x11 x12 x14 x15 x17 x19 x23 x24 x25 x26 t0 => ∀ (H : Heap) (locs : List Loc) (ls : Array Slot), va_P (dC, dI) vwCl (wLL b0 qh qs qr qa cI gh gs gr ga) H → va_D A (wLL b0 qh qs qr qa cI gh gs gr ga) → va_S A s.heap H locs → lv_has ls 27 [(0, .ref b), (1, .ref b0), (2, .ref (qa 0)), (3, .ref (qa 1)), (4, .ref (qa 2)), (5, .ref (qa 3)), (6, .ref (qa 4)), (7, .ref (qa 5)), (8, .ref (qa 6)), (9, .int x9), (10, .int x10), (11, .int x11), (12, .int x12), (14, .int x14), (15, .int x15), (17, .int x17), (19, .int x19), (23, .int x23), (24, .int x24), (25, .int x25), (26, .int x26)] → W p l e room_1 s m #[Value.ref b] below meth c H locs (200 + 4 * k) (4000 + 24 * k) (lw_Z below #[Value.ref b] s) (F0 m 1198 ls [.int t0])) := ⟨_, rfl⟩
  obtain ⟨V1208, eV1208⟩ : ∃ V : Nat → St → St → St → St → Int32 → Int32 → Int32 → Int32 → Int32 → Int32 → Int32 → Int32 → Int32 → Int32 → Int32 → Int32 → Int32 → Prop, V = (fun k gh gs gr ga x9 x10 x11 x12 x14 x15 x17 x19 x23 x24 x26 t0 t1 => ∀ (H : Heap) (locs : List Loc) (ls : Array Slot), va_P (dC, dI) vwCl (wLL b0 qh qs qr qa cI gh gs gr ga) H → va_D A (wLL b0 qh qs qr qa cI gh gs gr ga) → va_S A s.heap H locs → lv_has ls 27 [(0, .ref b), (1, .ref b0), (2, .ref (qa 0)), (3, .ref (qa 1)), (4, .ref (qa 2)), (5, .ref (qa 3)), (6, .ref (qa 4)), (7, .ref (qa 5)), (8, .ref (qa 6)), (9, .int x9), (10, .int x10), (11, .int x11), (12, .int x12), (14, .int x14), (15, .int x15), (17, .int x17), (19, .int x19), (23, .int x23), (24, .int x24), (26, .int x26)] → W p l e room_1 s m #[Value.ref b] below meth c H locs (200 + 4 * k) (4000 + 24 * k) (lw_Z below #[Value.ref b] s) (F0 m 1208 ls [.int t0, .int t1])) := ⟨_, rfl⟩
  obtain ⟨V1261, eV1261⟩ : ∃ V : Nat → St → St → St → St → Int32 → Int32 → Int32 → Int32 → Int32 → Int32 → Int32 → Int32 → Int32 → Prop, V = (fun k gh gs gr ga x9 x10 x11 x12 x14 x15 x17 x19 x26 => ∀ (H : Heap) (locs : List Loc) (ls : Array Slot), va_P (dC, dI) vwCl (wLL b0 qh qs qr qa cI gh gs gr ga) H → va_D A (wLL b0 qh qs qr qa cI gh gs gr ga) → va_S A s.heap H locs → lv_has ls 27 [(0, .ref b), (1, .ref b0), (2, .ref (qa 0)), (3, .ref (qa 1)), (4, .ref (qa 2)), (5, .ref (qa 3)), (6, .ref (qa 4)), (7, .ref (qa 5)), (8, .ref (qa 6)), (9, .int x9), (10, .int x10), (11, .int x11), (12, .int x12), (14, .int x14), (15, .int x15), (17, .int x17), (19, .int x19), (26, .int x26)] → W p l e room_1 s m #[Value.ref b] below meth c H locs (200 + 4 * k) (4000 + 24 * k) (lw_Z below #[Value.ref b] s) (F0 m 1261 ls [])) := ⟨_, rfl⟩
  obtain ⟨V1265, eV1265⟩ : ∃ V : Nat → St → St → St → St → Int32 → Int32 → Int32 → Int32 → Int32 → Int32 → Int32 → Int32 → Int32 → Prop, V = (fun k gh gs gr ga x9 x10 x11 x12 x14 x15 x17 x19 x26 => ∀ (H : Heap) (locs : List Loc) (ls : Array Slot), va_P (dC, dI) vwCl (wLL b0 qh qs qr qa cI gh gs gr ga) H → va_D A (wLL b0 qh qs qr qa cI gh gs gr ga) → va_S A s.heap H locs → lv_has ls 27 [(0, .ref b), (1, .ref b0), (2, .ref (qa 0)), (3, .ref (qa 1)), (4, .ref (qa 2)), (5, .ref (qa 3)), (6, .ref (qa 4)), (7, .ref (qa 5)), (8, .ref (qa 6)), (9, .int x9), (10, .int x10), (11, .int x11), (12, .int x12), (14, .int x14), (15, .int x15), (17, .int x17), (19, .int x19), (26, .int x26)] → W p l e room_1 s m #[Value.ref b] below meth c H locs (200 + 4 * k) (4000 + 24 * k) (lw_Z below #[Value.ref b] s) (F0 m 1265 ls [])) := ⟨_, rfl⟩
  obtain ⟨V1266, eV1266⟩ : ∃ V : Nat → St → St → St → St → Int32 → Int32 → Int32 → Int32 → Int32 → Int32 → Int32 → Int32 → Int32 → Int32 → Prop, V = (fun k gh gs gr ga x9 x10 x11 x12 x14 x15 x17 x19 x26 t0 => ∀ (H : Heap) (locs : List Loc) (ls : Array Slot), va_P (dC, dI) vwCl (wLL b0 qh qs qr qa cI gh gs gr ga) H → va_D A (wLL b0 qh qs qr qa cI gh gs gr ga) → va_S A s.heap H locs → lv_has ls 27 [(0, .ref b), (1, .ref b0), (2, .ref (qa 0)), (3, .ref (qa 1)), (4, .ref (qa 2)), (5, .ref (qa 3)), (6, .ref (qa 4)), (7, .ref (qa 5)), (8, .ref (qa 6)), (9, .int x9), (10, .int x10), (11, .int x11), (12, .int x12), (14, .int x14), (15, .int x15), (17, .int x17), (19, .int x19), (26, .int x26)] → W p l e room_1 s m #[Value.ref b] below meth c H locs (200 + 4 * k) (4000 + 24 * k) (lw_Z below #[Value.ref b] s) (F0 m 1266 ls [.int t0])) := ⟨_, rfl⟩
  obtain ⟨V1290, eV1290⟩ : ∃ V : Nat → St → St → St → St → Int32 → Int32 → Int32 → Int32 → Int32 → Int32 → Int32 → Int32 → Int32 → Int32 → Int32 → Int32 → Int32 → Prop, V = (fun k gh gs gr ga x9 x10 x11 x12 x13 x14 x15 x17 x18 x19 x20 x21 x22 => ∀ (H : Heap) (locs : List Loc) (ls : Array Slot), va_P (dC, dI) vwCl (wLL b0 qh qs qr qa cI gh gs gr ga) H → va_D A (wLL b0 qh qs qr qa cI gh gs gr ga) → va_S A s.heap H locs → lv_has ls 27 [(0, .ref b), (1, .ref b0), (2, .ref (qa 0)), (3, .ref (qa 1)), (4, .ref (qa 2)), (5, .ref (qa 3)), (6, .ref (qa 4)), (7, .ref (qa 5)), (8, .ref (qa 6)), (9, .int x9), (10, .int x10), (11, .int x11), (12, .int x12), (13, .int x13), (14, .int x14), (15, .int x15), (17, .int x17), (18, .int x18), (19, .int x19), (20, .int x20), (21, .int x21), (22, .int x22)] → W p l e room_1 s m #[Value.ref b] below meth c H locs (200 + 4 * k) (4000 + 24 * k) (lw_Z below #[Value.ref b] s) (F0 m 1290 ls [])) := ⟨_, rfl⟩
  obtain ⟨V1358, eV1358⟩ : ∃ V : Nat → St → St → St → St → Int32 → Int32 → Int32 → Int32 → Int32 → Int32 → Int32 → Int32 → Int32 → Int32 → Int32 → Int32 → Int32 → Int32 → Prop, V = (fun k gh gs gr ga x9 x10 x11 x12 x13 x14 x15 x17 x19 x20 x22 x23 x25 x26 => ∀ (H : Heap) (locs : List Loc) (ls : Array Slot), va_P (dC, dI) vwCl (wLL b0 qh qs qr qa cI gh gs gr ga) H → va_D A (wLL b0 qh qs qr qa cI gh gs gr ga) → va_S A s.heap H locs → lv_has ls 27 [(0, .ref b), (1, .ref b0), (2, .ref (qa 0)), (3, .ref (qa 1)), (4, .ref (qa 2)), (5, .ref (qa 3)), (6, .ref (qa 4)), (7, .ref (qa 5)), (8, .ref (qa 6)), (9, .int x9), (10, .int x10), (11, .int x11), (12, .int x12), (13, .int x13), (14, .int x14), (15, .int x15), (17, .int x17), (19, .int x19), (20, .int x20), (22, .int x22), (23, .int x23), (25, .int x25), (26, .int x26)] → W p l e room_1 s m #[Value.ref b] below meth c H locs (200 + 4 * k) (4000 + 24 * k) (lw_Z below #[Value.ref b] s) (F0 m 1358 ls [])) := ⟨_, rfl⟩
  obtain ⟨V1461, eV1461⟩ : ∃ V : Nat → St → St → St → St → Int32 → Int32 → Int32 → Int32 → Int32 → Int32 → Int32 → Int32 → Int32 → Int32 → Prop, V = (fun k gh gs gr ga x9 x10 x11 x12 x13 x14 x15 x17 x22 x23 => ∀ (H : Heap) (locs : List Loc) (ls : Array Slot), va_P (dC, dI) vwCl (wLL b0 qh qs qr qa cI gh gs gr ga) H → va_D A (wLL b0 qh qs qr qa cI gh gs gr ga) → va_S A s.heap H locs → lv_has ls 27 [(0, .ref b), (1, .ref b0), (2, .ref (qa 0)), (3, .ref (qa 1)), (4, .ref (qa 2)), (5, .ref (qa 3)), (6, .ref (qa 4)), (7, .ref (qa 5)), (8, .ref (qa 6)), (9, .int x9), (10, .int x10), (11, .int x11), (12, .int x12), (13, .int x13), (14, .int x14), (15, .int x15), (17, .int x17), (22, .int x22), (23, .int x23)] → W p l e room_1 s m #[Value.ref b] below meth c H locs (200 + 4 * k) (4000 + 24 * k) (lw_Z below #[Value.ref b] s) (F0 m 1461 ls [])) := ⟨_, rfl⟩
  obtain ⟨V1489, eV1489⟩ : ∃ V : Nat → St → St → St → St → Int32 → Int32 → Int32 → Int32 → Int32 → Int32 → Int32 → Int32 → Int32 → Int32 → Int32 → Int32 → Prop, V = (fun k gh gs gr ga x9 x10 x11 x12 x13 x14 x15 x17 x18 x19 x21 x22 => ∀ (H : Heap) (locs : List Loc) (ls : Array Slot), va_P (dC, dI) vwCl (wLL b0 qh qs qr qa cI gh gs gr ga) H → va_D A (wLL b0 qh qs qr qa cI gh gs gr ga) → va_S A s.heap H locs → lv_has ls 27 [(0, .ref b), (1, .ref b0), (2, .ref (qa 0)), (3, .ref (qa 1)), (4, .ref (qa 2)), (5, .ref (qa 3)), (6, .ref (qa 4)), (7, .ref (qa 5)), (8, .ref (qa 6)), (9, .int x9), (10, .int x10), (11, .int x11), (12, .int x12), (13, .int x13), (14, .int x14), (15, .int x15), (17, .int x17), (18, .int x18), (19, .int x19), (21, .int x21), (22, .int x22)] → W p l e room_1 s m #[Value.ref b] below meth c H locs (200 + 4 * k) (4000 + 24 * k) (lw_Z below #[Value.ref b] s) (F0 m 1489 ls [])) := ⟨_, rfl⟩
  obtain ⟨V1522, eV1522⟩ : ∃ V : Nat → St → St → St → St → Int32 → Int32 → Int32 → Int32 → Int32 → Int32 → Int32 → Int32 → Int32 → Int32 → Prop, V = (fun k gh gs gr ga x9 x10 x11 x12 x14 x15 x17 x19 x22 t0 => ∀ (H : Heap) (locs : List Loc) (ls : Array Slot), va_P (dC, dI) vwCl (wLL b0 qh qs qr qa cI gh gs gr ga) H → va_D A (wLL b0 qh qs qr qa cI gh gs gr ga) → va_S A s.heap H locs → lv_has ls 27 [(0, .ref b), (1, .ref b0), (2, .ref (qa 0)), (3, .ref (qa 1)), (4, .ref (qa 2)), (5, .ref (qa 3)), (6, .ref (qa 4)), (7, .ref (qa 5)), (8, .ref (qa 6)), (9, .int x9), (10, .int x10), (11, .int x11), (12, .int x12), (14, .int x14), (15, .int x15), (17, .int x17), (19, .int x19), (22, .int x22)] → W p l e room_1 s m #[Value.ref b] below meth c H locs (200 + 4 * k) (4000 + 24 * k) (lw_Z below #[Value.ref b] s) (F0 m 1522 ls [.int t0])) := ⟨_, rfl⟩
  obtain ⟨V1559, eV1559⟩ : ∃ V : Nat → St → St → St → St → Int32 → Int32 → Int32 → Int32 → Int32 → Int32 → Int32 → Int32 → Int32 → Int32 → Int32 → Int32 → Int32 → Prop, V = (fun k gh gs gr ga x9 x10 x11 x12 x14 x15 x17 x19 x21 x22 x23 x24 t0 => ∀ (H : Heap) (locs : List Loc) (ls : Array Slot), va_P (dC, dI) vwCl (wLL b0 qh qs qr qa cI gh gs gr ga) H → va_D A (wLL b0 qh qs qr qa cI gh gs gr ga) → va_S A s.heap H locs → lv_has ls 27 [(0, .ref b), (1, .ref b0), (2, .ref (qa 0)), (3, .ref (qa 1)), (4, .ref (qa 2)), (5, .ref (qa 3)), (6, .ref (qa 4)), (7, .ref (qa 5)), (8, .ref (qa 6)), (9, .int x9), (10, .int x10), (11, .int x11), (12, .int x12), (14, .int x14), (15, .int x15), (17, .int x17), (19, .int x19), (21, .int x21), (22, .int x22), (23, .int x23), (24, .int x24)] → W p l e room_1 s m #[Value.ref b] below meth c H locs (200 + 4 * k) (4000 + 24 * k) (lw_Z below #[Value.ref b] s) (F0 m 1559 ls [.int t0])) := ⟨_, rfl⟩
  obtain ⟨V1672, eV1672⟩ : ∃ V : Nat → St → St → St → St → Int32 → Int32 → Int32 → Int32 → Int32 → Int32 → Int32 → Int32 → Int32 → Int32 → Int32 → Prop, V = (fun k gh gs gr ga x9 x10 x11 x12 x13 x14 x15 x17 x18 x21 x22 => ∀ (H : Heap) (locs : List Loc) (ls : Array Slot), va_P (dC, dI) vwCl (wLL b0 qh qs qr qa cI gh gs gr ga) H → va_D A (wLL b0 qh qs qr qa cI gh gs gr ga) → va_S A s.heap H locs → lv_has ls 27 [(0, .ref b), (1, .ref b0), (2, .ref (qa 0)), (3, .ref (qa 1)), (4, .ref (qa 2)), (5, .ref (qa 3)), (6, .ref (qa 4)), (7, .ref (qa 5)), (8, .ref (qa 6)), (9, .int x9), (10, .int x10), (11, .int x11), (12, .int x12), (13, .int x13), (14, .int x14), (15, .int x15), (17, .int x17), (18, .int x18), (21, .int x21), (22, .int x22)] → W p l e room_1 s m #[Value.ref b] below meth c H locs (200 + 4 * k) (4000 + 24 * k) (lw_Z below #[Value.ref b] s) (F0 m 1672 ls [])) := ⟨_, rfl⟩
  obtain ⟨V1770, eV1770⟩ : ∃ V : Nat → St → St → St → St → Int32 → Int32 → Int32 → Int32 → Int32 → Int32 → Int32 → Int32 → Prop, V = (fun k gh gs gr ga x9 x10 x11 x12 x13 x14 x15 x17 => ∀ (H : Heap) (locs : List Loc) (ls : Array Slot), va_P (dC, dI) vwCl (wLL b0 qh qs qr qa cI gh gs gr ga) H → va_D A (wLL b0 qh qs qr qa cI gh gs gr ga) → va_S A s.heap H locs → lv_has ls 27 [(0, .ref b), (1, .ref b0), (2, .ref (qa 0)), (3, .ref (qa 1)), (4, .ref (qa 2)), (5, .ref (qa 3)), (6, .ref (qa 4)), (7, .ref (qa 5)), (8, .ref (qa 6)), (9, .int x9), (10, .int x10), (11, .int x11), (12, .int x12), (13, .int x13), (14, .int x14), (15, .int x15), (17, .int x17)] → W p l e room_1 s m #[Value.ref b] below meth c H locs (200 + 4 * k) (4000 + 24 * k) (lw_Z below #[Value.ref b] s) (F0 m 1770 ls [])) := ⟨_, rfl⟩
  obtain ⟨V1795, eV1795⟩ : ∃ V : Nat → St → St → St → St → Int32 → Int32 → Int32 → Int32 → Int32 → Int32 → Int32 → Prop, V = (fun k gh gs gr ga x9 x10 x11 x12 x14 x15 x17 => ∀ (H : Heap) (locs : List Loc) (ls : Array Slot), va_P (dC, dI) vwCl (wLL b0 qh qs qr qa cI gh gs gr ga) H → va_D A (wLL b0 qh qs qr qa cI gh gs gr ga) → va_S A s.heap H locs → lv_has ls 27 [(0, .ref b), (1, .ref b0), (2, .ref (qa 0)), (3, .ref (qa 1)), (4, .ref (qa 2)), (5, .ref (qa 3)), (6, .ref (qa 4)), (7, .ref (qa 5)), (8, .ref (qa 6)), (9, .int x9), (10, .int x10), (11, .int x11), (12, .int x12), (14, .int x14), (15, .int x15), (17, .int x17)] → W p l e room_1 s m #[Value.ref b] below meth c H locs (200 + 4 * k) (4000 + 24 * k) (lw_Z below #[Value.ref b] s) (F0 m 1795 ls [])) := ⟨_, rfl⟩
  obtain ⟨V1818, eV1818⟩ : ∃ V : Nat → St → St → St → St → Int32 → Int32 → Int32 → Int32 → Int32 → Int32 → Int32 → Prop, V = (fun k gh gs gr ga x9 x10 x11 x12 x14 x15 x17 => ∀ (H : Heap) (locs : List Loc) (ls : Array Slot), va_P (dC, dI) vwCl (wLL b0 qh qs qr qa cI gh gs gr ga) H → va_D A (wLL b0 qh qs qr qa cI gh gs gr ga) → va_S A s.heap H locs → lv_has ls 27 [(0, .ref b), (1, .ref b0), (2, .ref (qa 0)), (3, .ref (qa 1)), (4, .ref (qa 2)), (5, .ref (qa 3)), (6, .ref (qa 4)), (7, .ref (qa 5)), (8, .ref (qa 6)), (9, .int x9), (10, .int x10), (11, .int x11), (12, .int x12), (14, .int x14), (15, .int x15), (17, .int x17)] → W p l e room_1 s m #[Value.ref b] below meth c H locs (200 + 4 * k) (4000 + 24 * k) (lw_Z below #[Value.ref b] s) (F0 m 1818 ls [])) := ⟨_, rfl⟩
  obtain ⟨V1836, eV1836⟩ : ∃ V : Nat → St → St → St → St → Int32 → Int32 → Int32 → Int32 → Int32 → Int32 → Int32 → Prop, V = (fun k gh gs gr ga x9 x10 x11 x12 x14 x15 x17 => ∀ (H : Heap) (locs : List Loc) (ls : Array Slot), va_P (dC, dI) vwCl (wLL b0 qh qs qr qa cI gh gs gr ga) H → va_D A (wLL b0 qh qs qr qa cI gh gs gr ga) → va_S A s.heap H locs → lv_has ls 27 [(0, .ref b), (1, .ref b0), (2, .ref (qa 0)), (3, .ref (qa 1)), (4, .ref (qa 2)), (5, .ref (qa 3)), (6, .ref (qa 4)), (7, .ref (qa 5)), (8, .ref (qa 6)), (9, .int x9), (10, .int x10), (11, .int x11), (12, .int x12), (14, .int x14), (15, .int x15), (17, .int x17)] → W p l e room_1 s m #[Value.ref b] below meth c H locs (200 + 4 * k) (4000 + 24 * k) (lw_Z below #[Value.ref b] s) (F0 m 1836 ls [])) := ⟨_, rfl⟩
  obtain ⟨V1837, eV1837⟩ : ∃ V : Nat → St → St → St → St → Int32 → Int32 → Int32 → Int32 → Int32 → Int32 → Int32 → Int32 → Prop, V = (fun k gh gs gr ga x9 x10 x11 x12 x14 x15 x17 t0 => ∀ (H : Heap) (locs : List Loc) (ls : Array Slot), va_P (dC, dI) vwCl (wLL b0 qh qs qr qa cI gh gs gr ga) H → va_D A (wLL b0 qh qs qr qa cI gh gs gr ga) → va_S A s.heap H locs → lv_has ls 27 [(0, .ref b), (1, .ref b0), (2, .ref (qa 0)), (3, .ref (qa 1)), (4, .ref (qa 2)), (5, .ref (qa 3)), (6, .ref (qa 4)), (7, .ref (qa 5)), (8, .ref (qa 6)), (9, .int x9), (10, .int x10), (11, .int x11), (12, .int x12), (14, .int x14), (15, .int x15), (17, .int x17)] → W p l e room_1 s m #[Value.ref b] below meth c H locs (200 + 4 * k) (4000 + 24 * k) (lw_Z below #[Value.ref b] s) (F0 m 1837 ls [.int t0])) := ⟨_, rfl⟩
  obtain ⟨V1897, eV1897⟩ : ∃ V : Nat → St → St → St → St → Int32 → Int32 → Int32 → Int32 → Int32 → Int32 → Int32 → Int32 → Int32 → Prop, V = (fun k gh gs gr ga x9 x10 x11 x12 x14 x15 x19 x23 t0 => ∀ (H : Heap) (locs : List Loc) (ls : Array Slot), va_P (dC, dI) vwCl (wLL b0 qh qs qr qa cI gh gs gr ga) H → va_D A (wLL b0 qh qs qr qa cI gh gs gr ga) → va_S A s.heap H locs → lv_has ls 27 [(0, .ref b), (1, .ref b0), (2, .ref (qa 0)), (3, .ref (qa 1)), (4, .ref (qa 2)), (5, .ref (qa 3)), (6, .ref (qa 4)), (7, .ref (qa 5)), (8, .ref (qa 6)), (9, .int x9), (10, .int x10), (11, .int x11), (12, .int x12), (14, .int x14), (15, .int x15), (19, .int x19), (23, .int x23)] → W p l e room_1 s m #[Value.ref b] below meth c H locs (200 + 4 * k) (4000 + 24 * k) (lw_Z below #[Value.ref b] s) (F0 m 1897 ls [.int t0])) := ⟨_, rfl⟩
  obtain ⟨V1912, eV1912⟩ : ∃ V : Nat → St → St → St → St → Int32 → Int32 → Int32 → Int32 → Int32 → Int32 → Int32 → Int32 → Int32 → Int32 → Prop, V = (fun k gh gs gr ga x9 x10 x11 x12 x14 x15 x19 x23 t0 t1 => ∀ (H : Heap) (locs : List Loc) (ls : Array Slot), va_P (dC, dI) vwCl (wLL b0 qh qs qr qa cI gh gs gr ga) H → va_D A (wLL b0 qh qs qr qa cI gh gs gr ga) → va_S A s.heap H locs → lv_has ls 27 [(0, .ref b), (1, .ref b0), (2, .ref (qa 0)), (3, .ref (qa 1)), (4, .ref (qa 2)), (5, .ref (qa 3)), (6, .ref (qa 4)), (7, .ref (qa 5)), (8, .ref (qa 6)), (9, .int x9), (10, .int x10), (11, .int x11), (12, .int x12), (14, .int x14), (15, .int x15), (19, .int x19), (23, .int x23)] → W p l e room_1 s m #[Value.ref b] below meth c H locs (200 + 4 * k) (4000 + 24 * k) (lw_Z below #[Value.ref b] s) (F0 m 1912 ls [.int t0, .int t1])) := ⟨_, rfl⟩
  have hp := hp V78 V79 V116 V160 V218 V234 V250 V266 V330 V331 V339 V421 V549 V611 V644 V658 V749 V756 V757 V771 V806 V866 V876 V895 V903 V904 V919 V987 V1020 V1108 V1147 V1148 V1172 V1173 V1198 V1208 V1261 V1265 V1266 V1290 V1358 V1461 V1489 V1522 V1559 V1672 V1770 V1795 V1818 V1836 V1837 V1897 V1912
  have hp := hp (by
    intro k gh gs gr ga x9 x10 x11 x12 hp
    rw [eV78]
    intro H locs ls hP hD hS hl
    refine lv_iconst (v := 0) hx hb dL_law_78 (by decide) ?_
    rw [eV79] at hp
    exact hp _ _ _ hP hD hS (lv_sub hl [0, 1, 2, 3, 4, 5, 6, 7, 8, 9, 10, 11, 12] rfl))
  have hp := hp (by
    intro k gh gs gr ga x9 x10 x11 x12 t0 hp
    rw [eV79]
    intro H locs ls hP hD hS hl
    refine lv_istore (lv' := [(13, .int t0), (0, .ref b), (1, .ref b0), (2, .ref (qa 0)), (3, .ref (qa 1)), (4, .ref (qa 2)), (5, .ref (qa 3)), (6, .ref (qa 4)), (7, .ref (qa 5)), (8, .ref (qa 6)), (9, .int x9), (10, .int x10), (11, .int x11), (12, .int x12)]) hx hb dL_law_79 hl (by decide) rfl (fun ls hl => ?_)
    refine lv_aload_n hx hb dL_law_81 rfl (lv_at hl 1 rfl) ?_
    refine va_slen hx hb hX hbl hbA hS dL_law_82 ?_
    refine lv_bipush (v := 40) hx hb dL_law_83 (by decide) ?_
    refine lv_icmp_ge (tgt := 94) hx hb dL_law_85 (by decide) (fun c6 => ?_) (fun c6 => ?_)
    · have hp := hp.1 c6
      refine lv_aload_n hx hb dL_law_94 rfl (lv_at hl 1 rfl) ?_
      refine va_slen hx hb hX hbl hbA hS dL_law_95 ?_
      refine lv_bipush (v := 80) hx hb dL_law_96 (by decide) ?_
      refine lv_icmp_ge (tgt := 108) hx hb dL_law_98 (by decide) (fun c5 => ?_) (fun c5 => ?_)
      · have hp := hp.1 c5
        refine lv_sipush (v := 210) hx hb dL_law_108 (by decide) ?_
        refine lv_istore (lv' := [(14, .int (210 : Int32)), (13, .int t0), (0, .ref b), (1, .ref b0), (2, .ref (qa 0)), (3, .ref (qa 1)), (4, .ref (qa 2)), (5, .ref (qa 3)), (6, .ref (qa 4)), (7, .ref (qa 5)), (8, .ref (qa 6)), (9, .int x9), (10, .int x10), (11, .int x11), (12, .int x12)]) hx hb dL_law_111 hl (by decide) rfl (fun ls hl => ?_)
        refine lv_iconst (v := 0) hx hb dL_law_113 (by decide) ?_
        refine lv_istore (lv' := [(15, .int (0 : Int32)), (14, .int (210 : Int32)), (13, .int t0), (0, .ref b), (1, .ref b0), (2, .ref (qa 0)), (3, .ref (qa 1)), (4, .ref (qa 2)), (5, .ref (qa 3)), (6, .ref (qa 4)), (7, .ref (qa 5)), (8, .ref (qa 6)), (9, .int x9), (10, .int x10), (11, .int x11), (12, .int x12)]) hx hb dL_law_114 hl (by decide) rfl (fun ls hl => ?_)
        rw [eV116] at hp
        exact hp _ _ _ hP hD hS (lv_sub hl [3, 4, 5, 6, 7, 8, 9, 10, 11, 12, 13, 14, 15, 2, 1, 0] rfl)
      · have hp := hp.2 c5
        refine lv_iconst (v := 2) hx hb dL_law_101 (by decide) ?_
        refine lv_aload_n hx hb dL_law_102 rfl (lv_at hl 1 rfl) ?_
        refine va_slen hx hb hX hbl hbA hS dL_law_103 ?_
        refine lv_imul hx hb dL_law_104 ?_
        refine lv_goto (tgt := 111) hx hb dL_law_105 (by decide) ?_
        refine lv_istore (lv' := [(14, .int ((2 : Int32) * (nI L))), (13, .int t0), (0, .ref b), (1, .ref b0), (2, .ref (qa 0)), (3, .ref (qa 1)), (4, .ref (qa 2)), (5, .ref (qa 3)), (6, .ref (qa 4)), (7, .ref (qa 5)), (8, .ref (qa 6)), (9, .int x9), (10, .int x10), (11, .int x11), (12, .int x12)]) hx hb dL_law_111 hl (by decide) rfl (fun ls hl => ?_)
        refine lv_iconst (v := 0) hx hb dL_law_113 (by decide) ?_
        refine lv_istore (lv' := [(15, .int (0 : Int32)), (14, .int ((2 : Int32) * (nI L))), (13, .int t0), (0, .ref b), (1, .ref b0), (2, .ref (qa 0)), (3, .ref (qa 1)), (4, .ref (qa 2)), (5, .ref (qa 3)), (6, .ref (qa 4)), (7, .ref (qa 5)), (8, .ref (qa 6)), (9, .int x9), (10, .int x10), (11, .int x11), (12, .int x12)]) hx hb dL_law_114 hl (by decide) rfl (fun ls hl => ?_)
        rw [eV116] at hp
        exact hp _ _ _ hP hD hS (lv_sub hl [3, 4, 5, 6, 7, 8, 9, 10, 11, 12, 13, 14, 15, 2, 1, 0] rfl)
    · have hp := hp.2 c6
      refine lv_sipush (v := 150) hx hb dL_law_88 (by decide) ?_
      refine lv_goto (tgt := 111) hx hb dL_law_91 (by decide) ?_
      refine lv_istore (lv' := [(14, .int (150 : Int32)), (13, .int t0), (0, .ref b), (1, .ref b0), (2, .ref (qa 0)), (3, .ref (qa 1)), (4, .ref (qa 2)), (5, .ref (qa 3)), (6, .ref (qa 4)), (7, .ref (qa 5)), (8, .ref (qa 6)), (9, .int x9), (10, .int x10), (11, .int x11), (12, .int x12)]) hx hb dL_law_111 hl (by decide) rfl (fun ls hl => ?_)
      refine lv_iconst (v := 0) hx hb dL_law_113 (by decide) ?_
      refine lv_istore (lv' := [(15, .int (0 : Int32)), (14, .int (150 : Int32)), (13, .int t0), (0, .ref b), (1, .ref b0), (2, .ref (qa 0)), (3, .ref (qa 1)), (4, .ref (qa 2)), (5, .ref (qa 3)), (6, .ref (qa 4)), (7, .ref (qa 5)), (8, .ref (qa 6)), (9, .int x9), (10, .int x10), (11, .int x11), (12, .int x12)]) hx hb dL_law_114 hl (by decide) rfl (fun ls hl => ?_)
      rw [eV116] at hp
      exact hp _ _ _ hP hD hS (lv_sub hl [3, 4, 5, 6, 7, 8, 9, 10, 11, 12, 13, 14, 15, 2, 1, 0] rfl))
  have hp := hp (by
    intro k gh gs gr ga x9 x10 x11 x12 x13 x14 x15 hp
    rw [eV116]
    intro H locs ls hP hD hS hl
    refine lv_iload hx hb dL_law_116 (lv_at hl 15 rfl) ?_
    refine lv_iload hx hb dL_law_118 (lv_at hl 14 rfl) ?_
    refine lv_icmp_ge (tgt := 1962) hx hb dL_law_120 (by decide) (fun c9 => ?_) (fun c9 => ?_)
    · have hp := hp.1 c9
      refine lv_iload hx hb dL_law_1962 (lv_at hl 13 rfl) ?_
      have hkb := hp.1
      rw [hp.2]
      refine va_forget (fun q h => by have z := hS.2.2 q h; rw [eA] at z; exact z) ?_
      refine W.widen (k := 673973) (n := 7079910) (by omega) (by omega) ?_
      exact lw_ret hx hb hr hlocks dL_law_1964
    · have hp := hp.2 c9
      refine lv_iload hx hb dL_law_123 (lv_at hl 13 rfl) ?_
      refine lv_if_eq (tgt := 1962) hx hb dL_law_125 (by decide) (fun c8 => ?_) (fun c8 => ?_)
      · have hp := hp.1 c8
        refine lv_iload hx hb dL_law_1962 (lv_at hl 13 rfl) ?_
        have hkb := hp.1
        rw [hp.2]
        refine va_forget (fun q h => by have z := hS.2.2 q h; rw [eA] at z; exact z) ?_
        refine W.widen (k := 673973) (n := 7079910) (by omega) (by omega) ?_
        exact lw_ret hx hb hr hlocks dL_law_1964
      · have hp := hp.2 c8
        refine lv_iload hx hb dL_law_128 (lv_at hl 15 rfl) ?_
        refine lv_aload_n hx hb dL_law_130 rfl (lv_at hl 0 rfl) ?_
        refine va_slen hx hb hX hbl hbA hS dL_law_131 ?_
        refine lv_icmp_ge (tgt := 142) hx hb dL_law_132 (by decide) (fun c7 => ?_) (fun c7 => ?_)
        · have hp := hp.1 c7
          refine lv_ldc (v := (3070017 : Int32)) hx hb hown (hts _ kL_law_1) dL_law_142 ?_
          refine lv_iload hx hb dL_law_144 (lv_at hl 15 rfl) ?_
          refine lv_imul hx hb dL_law_146 ?_
          refine lv_iload hx hb dL_law_147 (lv_at hl 15 rfl) ?_
          refine lv_imul hx hb dL_law_149 ?_
          refine lv_ldc (v := (104021 : Int32)) hx hb hown (hts _ kL_law_0) dL_law_150 ?_
          refine lv_iload hx hb dL_law_152 (lv_at hl 15 rfl) ?_
          refine lv_imul hx hb dL_law_154 ?_
          refine lv_iadd hx hb dL_law_155 ?_
          refine lv_sipush (v := 179) hx hb dL_law_156 (by decide) ?_
          refine lv_iadd hx hb dL_law_159 ?_
          rw [eV160] at hp
          exact hp _ _ _ hP hD hS (lv_sub hl [0, 1, 2, 3, 4, 5, 6, 7, 8, 9, 10, 11, 12, 13, 14, 15] rfl)
        · have hp := hp.2 c7
          refine lv_aload_n hx hb dL_law_135 rfl (lv_at hl 0 rfl) ?_
          refine lv_iload hx hb dL_law_136 (lv_at hl 15 rfl) ?_
          refine va_sld hx hb hX hbl hbA hS hp.1 dL_law_138 ?_
          have hp := hp.2
          refine lv_goto (tgt := 160) hx hb dL_law_139 (by decide) ?_
          rw [eV160] at hp
          exact hp _ _ _ hP hD hS (lv_sub hl [0, 1, 2, 3, 4, 5, 6, 7, 8, 9, 10, 11, 12, 13, 14, 15] rfl))
  have hp := hp (by
    intro k gh gs gr ga x9 x10 x11 x12 x13 x14 x15 t0 hp
    rw [eV160]
    intro H locs ls hP hD hS hl
    refine lv_istore (lv' := [(16, .int t0), (0, .ref b), (1, .ref b0), (2, .ref (qa 0)), (3, .ref (qa 1)), (4, .ref (qa 2)), (5, .ref (qa 3)), (6, .ref (qa 4)), (7, .ref (qa 5)), (8, .ref (qa 6)), (9, .int x9), (10, .int x10), (11, .int x11), (12, .int x12), (13, .int x13), (14, .int x14), (15, .int x15)]) hx hb dL_law_160 hl (by decide) rfl (fun ls hl => ?_)
    refine lv_iload hx hb dL_law_162 (lv_at hl 0 rfl) ?_
    refine lv_iconst (v := 4) hx hb dL_law_164 (by decide) ?_
    refine lv_ishr hx hb dL_law_165 ?_
    refine lv_topi (fun y10 ey10 => ?_)
    have hp := hp y10 ey10
    refine lv_ldc (v := (268435455 : Int32)) hx hb hown (hts _ kL_law_2) dL_law_166 ?_
    refine lv_iand hx hb dL_law_168 ?_
    refine lv_topi (fun y11 ey11 => ?_)
    have hp := hp y11 ey11
    refine lv_istore (lv' := [(17, .int y11), (16, .int t0), (0, .ref b), (1, .ref b0), (2, .ref (qa 0)), (3, .ref (qa 1)), (4, .ref (qa 2)), (5, .ref (qa 3)), (6, .ref (qa 4)), (7, .ref (qa 5)), (8, .ref (qa 6)), (9, .int x9), (10, .int x10), (11, .int x11), (12, .int x12), (13, .int x13), (14, .int x14), (15, .int x15)]) hx hb dL_law_169 hl (by decide) rfl (fun ls hl => ?_)
    refine lv_iload hx hb dL_law_171 (lv_at hl 17 rfl) ?_
    refine lv_iconst (v := 3) hx hb dL_law_173 (by decide) ?_
    refine lv_icmp_ge (tgt := 181) hx hb dL_law_174 (by decide) (fun c16 => ?_) (fun c16 => ?_)
    · have hp := hp.1 c16
      refine lv_iload hx hb dL_law_181 (lv_at hl 17 rfl) ?_
      refine lv_iconst (v := 5) hx hb dL_law_183 (by decide) ?_
      refine lv_icmp_ge (tgt := 191) hx hb dL_law_184 (by decide) (fun c15 => ?_) (fun c15 => ?_)
      · have hp := hp.1 c15
        refine lv_iload hx hb dL_law_191 (lv_at hl 17 rfl) ?_
        refine lv_bipush (v := 9) hx hb dL_law_193 (by decide) ?_
        refine lv_icmp_ge (tgt := 202) hx hb dL_law_195 (by decide) (fun c14 => ?_) (fun c14 => ?_)
        · have hp := hp.1 c14
          refine lv_iload hx hb dL_law_202 (lv_at hl 17 rfl) ?_
          refine lv_bipush (v := 11) hx hb dL_law_204 (by decide) ?_
          refine lv_icmp_ge (tgt := 213) hx hb dL_law_206 (by decide) (fun c13 => ?_) (fun c13 => ?_)
          · have hp := hp.1 c13
            refine lv_iload hx hb dL_law_213 (lv_at hl 1 rfl) ?_
            refine lv_bipush (v := 15) hx hb dL_law_215 (by decide) ?_
            refine lv_iand hx hb dL_law_217 ?_
            refine lv_topi (fun y12 ey12 => ?_)
            have hp := hp y12 ey12
            rw [eV218] at hp
            exact hp _ _ _ hP hD hS (lv_sub hl [2, 3, 4, 5, 6, 7, 8, 9, 10, 11, 12, 13, 14, 15, 16, 17, 0] rfl)
          · have hp := hp.2 c13
            refine lv_iconst (v := 4) hx hb dL_law_209 (by decide) ?_
            refine lv_goto (tgt := 218) hx hb dL_law_210 (by decide) ?_
            rw [eV218] at hp
            exact hp _ _ _ hP hD hS (lv_sub hl [2, 3, 4, 5, 6, 7, 8, 9, 10, 11, 12, 13, 14, 15, 16, 17, 0] rfl)
        · have hp := hp.2 c14
          refine lv_iconst (v := 2) hx hb dL_law_198 (by decide) ?_
          refine lv_goto (tgt := 218) hx hb dL_law_199 (by decide) ?_
          rw [eV218] at hp
          exact hp _ _ _ hP hD hS (lv_sub hl [2, 3, 4, 5, 6, 7, 8, 9, 10, 11, 12, 13, 14, 15, 16, 17, 0] rfl)
      · have hp := hp.2 c15
        refine lv_iconst (v := 1) hx hb dL_law_187 (by decide) ?_
        refine lv_goto (tgt := 218) hx hb dL_law_188 (by decide) ?_
        rw [eV218] at hp
        exact hp _ _ _ hP hD hS (lv_sub hl [2, 3, 4, 5, 6, 7, 8, 9, 10, 11, 12, 13, 14, 15, 16, 17, 0] rfl)
    · have hp := hp.2 c16
      refine lv_iconst (v := 0) hx hb dL_law_177 (by decide) ?_
      refine lv_goto (tgt := 218) hx hb dL_law_178 (by decide) ?_
      rw [eV218] at hp
      exact hp _ _ _ hP hD hS (lv_sub hl [2, 3, 4, 5, 6, 7, 8, 9, 10, 11, 12, 13, 14, 15, 16, 17, 0] rfl))
  have hp := hp (by
    intro k gh gs gr ga x9 x10 x11 x12 x13 x14 x15 x17 t0 hp
    rw [eV218]
    intro H locs ls hP hD hS hl
    refine lv_istore (lv' := [(18, .int t0), (0, .ref b), (1, .ref b0), (2, .ref (qa 0)), (3, .ref (qa 1)), (4, .ref (qa 2)), (5, .ref (qa 3)), (6, .ref (qa 4)), (7, .ref (qa 5)), (8, .ref (qa 6)), (9, .int x9), (10, .int x10), (11, .int x11), (12, .int x12), (13, .int x13), (14, .int x14), (15, .int x15), (17, .int x17)]) hx hb dL_law_218 hl (by decide) rfl (fun ls hl => ?_)
    refine lv_iload hx hb dL_law_220 (lv_at hl 11 rfl) ?_
    refine lv_if_ne (tgt := 229) hx hb dL_law_222 (by decide) (fun c18 => ?_) (fun c18 => ?_)
    · have hp := hp.1 c18
      refine lv_iload hx hb dL_law_229 (lv_at hl 17 rfl) ?_
      refine lv_iload hx hb dL_law_231 (lv_at hl 11 rfl) ?_
      refine lv_irem hx hb dL_law_233 hp.1 ?_
      have hp := hp.2
      refine lv_topi (fun y17 ey17 => ?_)
      have hp := hp y17 ey17
      rw [eV234] at hp
      exact hp _ _ _ hP hD hS (lv_sub hl [1, 2, 3, 4, 5, 6, 7, 8, 9, 10, 11, 12, 13, 14, 15, 16, 17, 0] rfl)
    · have hp := hp.2 c18
      refine lv_iconst (v := 0) hx hb dL_law_225 (by decide) ?_
      refine lv_goto (tgt := 234) hx hb dL_law_226 (by decide) ?_
      rw [eV234] at hp
      exact hp _ _ _ hP hD hS (lv_sub hl [1, 2, 3, 4, 5, 6, 7, 8, 9, 10, 11, 12, 13, 14, 15, 16, 17, 0] rfl))
  have hp := hp (by
    intro k gh gs gr ga x9 x10 x11 x12 x13 x14 x15 x17 x18 t0 hp
    rw [eV234]
    intro H locs ls hP hD hS hl
    refine lv_istore (lv' := [(19, .int t0), (0, .ref b), (1, .ref b0), (2, .ref (qa 0)), (3, .ref (qa 1)), (4, .ref (qa 2)), (5, .ref (qa 3)), (6, .ref (qa 4)), (7, .ref (qa 5)), (8, .ref (qa 6)), (9, .int x9), (10, .int x10), (11, .int x11), (12, .int x12), (13, .int x13), (14, .int x14), (15, .int x15), (17, .int x17), (18, .int x18)]) hx hb dL_law_234 hl (by decide) rfl (fun ls hl => ?_)
    refine lv_iload hx hb dL_law_236 (lv_at hl 12 rfl) ?_
    refine lv_if_ne (tgt := 245) hx hb dL_law_238 (by decide) (fun c20 => ?_) (fun c20 => ?_)
    · have hp := hp.1 c20
      refine lv_iload hx hb dL_law_245 (lv_at hl 17 rfl) ?_
      refine lv_iload hx hb dL_law_247 (lv_at hl 12 rfl) ?_
      refine lv_irem hx hb dL_law_249 hp.1 ?_
      have hp := hp.2
      refine lv_topi (fun y19 ey19 => ?_)
      have hp := hp y19 ey19
      rw [eV250] at hp
      exact hp _ _ _ hP hD hS (lv_sub hl [1, 2, 3, 4, 5, 6, 7, 8, 9, 10, 11, 12, 13, 14, 15, 16, 17, 18, 0] rfl)
    · have hp := hp.2 c20
      refine lv_iconst (v := 0) hx hb dL_law_241 (by decide) ?_
      refine lv_goto (tgt := 250) hx hb dL_law_242 (by decide) ?_
      rw [eV250] at hp
      exact hp _ _ _ hP hD hS (lv_sub hl [1, 2, 3, 4, 5, 6, 7, 8, 9, 10, 11, 12, 13, 14, 15, 16, 17, 18, 0] rfl))
  have hp := hp (by
    intro k gh gs gr ga x9 x10 x11 x12 x13 x14 x15 x17 x18 x19 t0 hp
    rw [eV250]
    intro H locs ls hP hD hS hl
    refine lv_istore (lv' := [(20, .int t0), (0, .ref b), (1, .ref b0), (2, .ref (qa 0)), (3, .ref (qa 1)), (4, .ref (qa 2)), (5, .ref (qa 3)), (6, .ref (qa 4)), (7, .ref (qa 5)), (8, .ref (qa 6)), (9, .int x9), (10, .int x10), (11, .int x11), (12, .int x12), (13, .int x13), (14, .int x14), (15, .int x15), (17, .int x17), (18, .int x18), (19, .int x19)]) hx hb dL_law_250 hl (by decide) rfl (fun ls hl => ?_)
    refine lv_iload hx hb dL_law_252 (lv_at hl 13 rfl) ?_
    refine lv_if_ne (tgt := 261) hx hb dL_law_254 (by decide) (fun c22 => ?_) (fun c22 => ?_)
    · have hp := hp.1 c22
      refine lv_iload hx hb dL_law_261 (lv_at hl 17 rfl) ?_
      refine lv_iload hx hb dL_law_263 (lv_at hl 13 rfl) ?_
      refine lv_irem hx hb dL_law_265 hp.1 ?_
      have hp := hp.2
      refine lv_topi (fun y21 ey21 => ?_)
      have hp := hp y21 ey21
      rw [eV266] at hp
      exact hp _ _ _ hP hD hS (lv_sub hl [1, 2, 3, 4, 5, 6, 7, 8, 9, 10, 11, 12, 13, 14, 15, 16, 17, 18, 19, 0] rfl)
    · have hp := hp.2 c22
      refine lv_iconst (v := 0) hx hb dL_law_257 (by decide) ?_
      refine lv_goto (tgt := 266) hx hb dL_law_258 (by decide) ?_
      rw [eV266] at hp
      exact hp _ _ _ hP hD hS (lv_sub hl [1, 2, 3, 4, 5, 6, 7, 8, 9, 10, 11, 12, 13, 14, 15, 16, 17, 18, 19, 0] rfl))
  have hp := hp (by
    intro k gh gs gr ga x9 x10 x11 x12 x13 x14 x15 x17 x18 x19 x20 t0 hp
    rw [eV266]
    intro H locs ls hP hD hS hl
    refine lv_istore (lv' := [(21, .int t0), (0, .ref b), (1, .ref b0), (2, .ref (qa 0)), (3, .ref (qa 1)), (4, .ref (qa 2)), (5, .ref (qa 3)), (6, .ref (qa 4)), (7, .ref (qa 5)), (8, .ref (qa 6)), (9, .int x9), (10, .int x10), (11, .int x11), (12, .int x12), (13, .int x13), (14, .int x14), (15, .int x15), (17, .int x17), (18, .int x18), (19, .int x19), (20, .int x20)]) hx hb dL_law_266 hl (by decide) rfl (fun ls hl => ?_)
    refine lv_iload hx hb dL_law_268 (lv_at hl 17 rfl) ?_
    refine lv_iconst (v := 5) hx hb dL_law_270 (by decide) ?_
    refine lv_ishr hx hb dL_law_271 ?_
    refine lv_topi (fun y23 ey23 => ?_)
    have hp := hp y23 ey23
    refine lv_iconst (v := 4) hx hb dL_law_272 (by decide) ?_
    refine lv_irem hx hb dL_law_273 hp.1 ?_
    have hp := hp.2
    refine lv_topi (fun y24 ey24 => ?_)
    have hp := hp y24 ey24
    refine lv_istore (lv' := [(22, .int y24), (21, .int t0), (0, .ref b), (1, .ref b0), (2, .ref (qa 0)), (3, .ref (qa 1)), (4, .ref (qa 2)), (5, .ref (qa 3)), (6, .ref (qa 4)), (7, .ref (qa 5)), (8, .ref (qa 6)), (9, .int x9), (10, .int x10), (11, .int x11), (12, .int x12), (13, .int x13), (14, .int x14), (15, .int x15), (17, .int x17), (18, .int x18), (19, .int x19), (20, .int x20)]) hx hb dL_law_274 hl (by decide) rfl (fun ls hl => ?_)
    refine lv_iload hx hb dL_law_276 (lv_at hl 19 rfl) ?_
    refine lv_if_ne (tgt := 339) hx hb dL_law_278 (by decide) (fun c36 => ?_) (fun c36 => ?_)
    · have hp := hp.1 c36
      rw [eV339] at hp
      exact hp _ _ _ hP hD hS (lv_sub hl [2, 3, 4, 5, 6, 7, 8, 9, 10, 11, 12, 13, 14, 15, 16, 17, 18, 19, 20, 21, 1, 0] rfl)
    · have hp := hp.2 c36
      refine lv_iload hx hb dL_law_281 (lv_at hl 11 rfl) ?_
      refine lv_bipush (v := 10) hx hb dL_law_283 (by decide) ?_
      refine lv_icmp_ge (tgt := 339) hx hb dL_law_285 (by decide) (fun c35 => ?_) (fun c35 => ?_)
      · have hp := hp.1 c35
        rw [eV339] at hp
        exact hp _ _ _ hP hD hS (lv_sub hl [2, 3, 4, 5, 6, 7, 8, 9, 10, 11, 12, 13, 14, 15, 16, 17, 18, 19, 20, 21, 1, 0] rfl)
      · have hp := hp.2 c35
        refine lv_aload_n hx hb dL_law_288 rfl (lv_at hl 4 rfl) ?_
        refine lv_iload hx hb dL_law_289 (lv_at hl 11 rfl) ?_
        refine lv_iconst (v := 2) hx hb dL_law_291 (by decide) ?_
        refine lv_iload hx hb dL_law_292 (lv_at hl 18 rfl) ?_
        refine lv_iconst (v := 5) hx hb dL_law_294 (by decide) ?_
        refine lv_irem hx hb dL_law_295 hp.1 ?_
        have hp := hp.2
        refine lv_topi (fun y25 ey25 => ?_)
        have hp := hp y25 ey25
        refine lv_iadd hx hb dL_law_296 ?_
        refine va_iast hx hb hK hP hD hS 44 0 rfl rfl hp.1 dL_law_297 (fun H locs hP hD hS => ?_)
        have hp := hp.2
        obtain ⟨g26, eg26⟩ : ∃ z : St, z = st_set ga 0 x9.toNatClampNeg ((2 : Int32) + y25) := ⟨_, rfl⟩
        have hp := hp g26 eg26
        have hP : va_P (dC, dI) vwCl (wLL b0 qh qs qr qa cI gh gs gr g26) H := by rw [eg26]; exact hP
        have hD : va_D A (wLL b0 qh qs qr qa cI gh gs gr g26) := by rw [eg26]; exact hD
        refine lv_aload_n hx hb dL_law_298 rfl (lv_at hl 3 rfl) ?_
        have hkb := hp.1
        have hp := hp.2
        obtain ⟨r27, hr27, hp⟩ := hp
        refine ro_V (As := []) (rest := []) ⟨hx, hb, hml, hown, hts⟩ (c_X4_waiting l dC dI cI b0 qh qs qr gh gs gr r27 hr27) (cwV 0 hts gL_law_X4_waiting rfl rfl rfl (by decide +kernel) ⟨Nat.le_of_ble_eq_true rfl, Nat.le_of_ble_eq_true rfl⟩) (tLL hP) hK hN rfl rfl rfl rfl hl.1 (Nat.le_of_ble_eq_true rfl) ⟨by show 200 + 4 * k ≤ 673973; omega, by show 4000 + 24 * k ≤ 7079910; omega⟩ dL_law_299 ?_
        refine lv_istore (lv' := [(23, .int r27), (22, .int y24), (21, .int t0), (0, .ref b), (1, .ref b0), (2, .ref (qa 0)), (3, .ref (qa 1)), (4, .ref (qa 2)), (5, .ref (qa 3)), (6, .ref (qa 4)), (7, .ref (qa 5)), (8, .ref (qa 6)), (9, .int x9), (10, .int x10), (11, .int x11), (12, .int x12), (13, .int x13), (14, .int x14), (15, .int x15), (17, .int x17), (18, .int x18), (19, .int x19), (20, .int x20)]) hx hb dL_law_302 hl (by decide) rfl (fun ls hl => ?_)
        refine lv_aload_n hx hb dL_law_304 rfl (lv_at hl 4 rfl) ?_
        refine lv_aload_n hx hb dL_law_305 rfl (lv_at hl 5 rfl) ?_
        refine lv_iload hx hb dL_law_306 (lv_at hl 12 rfl) ?_
        refine va_iald hx hb hK hP 44 0 rfl rfl hp.1 dL_law_308 ?_
        have hp := hp.2
        have hkb := hp.1
        have hp := hp.2
        refine pw_V (As := [.int (g26 0 x9.toNatClampNeg)]) (rest := []) (w1 := []) (w2 := wA qa cI g26) (wsd := fun u : St × St × St => wLL b0 qh qs qr qa cI u.1 u.2.1 u.2.2 g26) ⟨hx, hb, hml, hown, hts⟩ (cn_X4_addTable l dC dI cI b0 qh qs qr gh gs gr (g26 0 x9.toNatClampNeg) _ hp _) (cwV 1 hts gL_law_X4_addTable rfl rfl rfl (by decide +kernel) ⟨Nat.le_of_ble_eq_true rfl, Nat.le_of_ble_eq_true rfl⟩) hP hD hS hA hK hN (wLL_eq ..) (fun u => rfl) rfl rfl rfl rfl hl.1 (Nat.le_of_ble_eq_true rfl) ⟨by show 200 + 4 * k + 0 ≤ 673973; omega, by show 4000 + 24 * k + 0 ≤ 7079910; omega⟩ dL_law_309 (fun r28 u H locs hp hP hD hS => ?_)
        obtain ⟨gh29, gs30, gr31⟩ := u
        refine lv_iload hx hb dL_law_312 (lv_at hl 12 rfl) ?_
        refine lv_icmp_ne (tgt := 330) hx hb dL_law_314 (by decide) (fun c34 => ?_) (fun c34 => ?_)
        · have hp := hp.1 c34
          rw [eV330] at hp
          exact hp _ _ _ hP hD hS (lv_sub hl [3, 4, 5, 6, 7, 8, 9, 10, 11, 12, 13, 14, 15, 17, 18, 19] rfl)
        · have hp := hp.2 c34
          refine lv_aload_n hx hb dL_law_317 rfl (lv_at hl 4 rfl) ?_
          have hkb := hp.1
          have hp := hp.2
          obtain ⟨r32, hr32, hp⟩ := hp
          refine ro_V (As := []) (rest := []) ⟨hx, hb, hml, hown, hts⟩ (c_X4_waiting l dC dI cI b0 qh qs qr gh29 gs30 gr31 r32 hr32) (cwV 0 hts gL_law_X4_waiting rfl rfl rfl (by decide +kernel) ⟨Nat.le_of_ble_eq_true rfl, Nat.le_of_ble_eq_true rfl⟩) (tLL hP) hK hN rfl rfl rfl rfl hl.1 (Nat.le_of_ble_eq_true rfl) ⟨by show 200 + 4 * k ≤ 673973; omega, by show 4000 + 24 * k ≤ 7079910; omega⟩ dL_law_318 ?_
          refine lv_iload hx hb dL_law_321 (lv_at hl 0 rfl) ?_
          refine lv_icmp_ne (tgt := 330) hx hb dL_law_323 (by decide) (fun c33 => ?_) (fun c33 => ?_)
          · have hp := hp.1 c33
            rw [eV330] at hp
            exact hp _ _ _ hP hD hS (lv_sub hl [3, 4, 5, 6, 7, 8, 9, 10, 11, 12, 13, 14, 15, 17, 18, 19] rfl)
          · have hp := hp.2 c33
            refine lv_iconst (v := 1) hx hb dL_law_326 (by decide) ?_
            refine lv_goto (tgt := 331) hx hb dL_law_327 (by decide) ?_
            rw [eV331] at hp
            exact hp _ _ _ hP hD hS (lv_sub hl [3, 4, 5, 6, 7, 8, 9, 10, 11, 12, 13, 14, 15, 17, 18, 19] rfl))
  have hp := hp (by
    intro k gh gs gr ga x9 x10 x11 x12 x14 x15 x17 hp
    rw [eV330]
    intro H locs ls hP hD hS hl
    refine lv_iconst (v := 0) hx hb dL_law_330 (by decide) ?_
    rw [eV331] at hp
    exact hp _ _ _ hP hD hS (lv_sub hl [0, 1, 2, 3, 4, 5, 6, 7, 8, 9, 10, 11, 12, 13, 14, 15] rfl))
  have hp := hp (by
    intro k gh gs gr ga x9 x10 x11 x12 x14 x15 x17 t0 hp
    rw [eV331]
    intro H locs ls hP hD hS hl
    refine lv_istore (lv' := [(13, .int t0), (0, .ref b), (1, .ref b0), (2, .ref (qa 0)), (3, .ref (qa 1)), (4, .ref (qa 2)), (5, .ref (qa 3)), (6, .ref (qa 4)), (7, .ref (qa 5)), (8, .ref (qa 6)), (9, .int x9), (10, .int x10), (11, .int x11), (12, .int x12), (14, .int x14), (15, .int x15), (17, .int x17)]) hx hb dL_law_331 hl (by decide) rfl (fun ls hl => ?_)
    refine lv_iinc (v := x9 + (1 : Int32)) (lv' := [(9, .int (x9 + (1 : Int32))), (13, .int t0), (0, .ref b), (1, .ref b0), (2, .ref (qa 0)), (3, .ref (qa 1)), (4, .ref (qa 2)), (5, .ref (qa 3)), (6, .ref (qa 4)), (7, .ref (qa 5)), (8, .ref (qa 6)), (10, .int x10), (11, .int x11), (12, .int x12), (14, .int x14), (15, .int x15), (17, .int x17)]) hx hb dL_law_333 hl (k := 10) rfl rfl (by decide) rfl (fun ls hl => ?_)
    refine lv_goto (tgt := 1770) hx hb dL_law_336 (by decide) ?_
    rw [eV1770] at hp
    exact hp _ _ _ hP hD hS (lv_sub hl [2, 3, 4, 5, 6, 7, 8, 9, 10, 0, 11, 12, 13, 1, 14, 15, 16] rfl))
  have hp := hp (by
    intro k gh gs gr ga x9 x10 x11 x12 x13 x14 x15 x17 x18 x19 x20 x21 x22 hp
    rw [eV339]
    intro H locs ls hP hD hS hl
    refine lv_iload hx hb dL_law_339 (lv_at hl 17 rfl) ?_
    refine lv_iconst (v := 1) hx hb dL_law_341 (by decide) ?_
    refine lv_icmp_ne (tgt := 549) hx hb dL_law_342 (by decide) (fun c46 => ?_) (fun c46 => ?_)
    · have hp := hp.1 c46
      rw [eV549] at hp
      exact hp _ _ _ hP hD hS (lv_sub hl [0, 1, 2, 3, 4, 5, 6, 7, 8, 9, 10, 11, 12, 13, 14, 15, 16, 17, 18, 19, 20, 21] rfl)
    · have hp := hp.2 c46
      refine lv_iload hx hb dL_law_345 (lv_at hl 11 rfl) ?_
      refine lv_bipush (v := 8) hx hb dL_law_347 (by decide) ?_
      refine lv_icmp_ge (tgt := 549) hx hb dL_law_349 (by decide) (fun c45 => ?_) (fun c45 => ?_)
      · have hp := hp.1 c45
        rw [eV549] at hp
        exact hp _ _ _ hP hD hS (lv_sub hl [0, 1, 2, 3, 4, 5, 6, 7, 8, 9, 10, 11, 12, 13, 14, 15, 16, 17, 18, 19, 20, 21] rfl)
      · have hp := hp.2 c45
        refine lv_aload hx hb dL_law_352 (lv_at hl 7 rfl) ?_
        refine lv_iconst (v := 3) hx hb dL_law_354 (by decide) ?_
        refine lv_iload hx hb dL_law_355 (lv_at hl 11 rfl) ?_
        refine lv_imul hx hb dL_law_357 ?_
        refine lv_iconst (v := 1) hx hb dL_law_358 (by decide) ?_
        refine lv_iload hx hb dL_law_359 (lv_at hl 16 rfl) ?_
        refine lv_iconst (v := 4) hx hb dL_law_361 (by decide) ?_
        refine lv_irem hx hb dL_law_362 hp.1 ?_
        have hp := hp.2
        refine lv_topi (fun y37 ey37 => ?_)
        have hp := hp y37 ey37
        refine lv_iadd hx hb dL_law_363 ?_
        refine va_iast hx hb hK hP hD hS 49 0 rfl rfl hp.1 dL_law_364 (fun H locs hP hD hS => ?_)
        have hp := hp.2
        obtain ⟨g38, eg38⟩ : ∃ z : St, z = st_set ga 5 ((3 : Int32) * x11).toNatClampNeg ((1 : Int32) + y37) := ⟨_, rfl⟩
        have hp := hp g38 eg38
        have hP : va_P (dC, dI) vwCl (wLL b0 qh qs qr qa cI gh gs gr g38) H := by rw [eg38]; exact hP
        have hD : va_D A (wLL b0 qh qs qr qa cI gh gs gr g38) := by rw [eg38]; exact hD
        refine lv_aload hx hb dL_law_365 (lv_at hl 7 rfl) ?_
        refine lv_iconst (v := 3) hx hb dL_law_367 (by decide) ?_
        refine lv_iload hx hb dL_law_368 (lv_at hl 11 rfl) ?_
        refine lv_imul hx hb dL_law_370 ?_
        refine lv_iconst (v := 1) hx hb dL_law_371 (by decide) ?_
        refine lv_iadd hx hb dL_law_372 ?_
        refine lv_aload hx hb dL_law_373 (lv_at hl 7 rfl) ?_
        refine lv_iconst (v := 3) hx hb dL_law_375 (by decide) ?_
        refine lv_iload hx hb dL_law_376 (lv_at hl 11 rfl) ?_
        refine lv_imul hx hb dL_law_378 ?_
        refine va_iald hx hb hK hP 49 0 rfl rfl hp.1 dL_law_379 ?_
        have hp := hp.2
        refine lv_iload hx hb dL_law_380 (lv_at hl 16 rfl) ?_
        refine lv_iconst (v := 2) hx hb dL_law_382 (by decide) ?_
        refine lv_ishr hx hb dL_law_383 ?_
        refine lv_topi (fun y39 ey39 => ?_)
        have hp := hp y39 ey39
        refine lv_bipush (v := 13) hx hb dL_law_384 (by decide) ?_
        refine lv_aload hx hb dL_law_386 (lv_at hl 7 rfl) ?_
        refine lv_iconst (v := 3) hx hb dL_law_388 (by decide) ?_
        refine lv_iload hx hb dL_law_389 (lv_at hl 11 rfl) ?_
        refine lv_imul hx hb dL_law_391 ?_
        refine va_iald hx hb hK hP 49 0 rfl rfl hp.1 dL_law_392 ?_
        have hp := hp.2
        refine lv_isub hx hb dL_law_393 ?_
        refine lv_irem hx hb dL_law_394 hp.1 ?_
        have hp := hp.2
        refine lv_topi (fun y40 ey40 => ?_)
        have hp := hp y40 ey40
        refine lv_iadd hx hb dL_law_395 ?_
        refine va_iast hx hb hK hP hD hS 49 0 rfl rfl hp.1 dL_law_396 (fun H locs hP hD hS => ?_)
        have hp := hp.2
        obtain ⟨g41, eg41⟩ : ∃ z : St, z = st_set g38 5 (((3 : Int32) * x11) + (1 : Int32)).toNatClampNeg ((g38 5 ((3 : Int32) * x11).toNatClampNeg) + y40) := ⟨_, rfl⟩
        have hp := hp g41 eg41
        have hP : va_P (dC, dI) vwCl (wLL b0 qh qs qr qa cI gh gs gr g41) H := by rw [eg41]; exact hP
        have hD : va_D A (wLL b0 qh qs qr qa cI gh gs gr g41) := by rw [eg41]; exact hD
        refine lv_aload hx hb dL_law_397 (lv_at hl 7 rfl) ?_
        refine lv_iconst (v := 3) hx hb dL_law_399 (by decide) ?_
        refine lv_iload hx hb dL_law_400 (lv_at hl 11 rfl) ?_
        refine lv_imul hx hb dL_law_402 ?_
        refine lv_iconst (v := 2) hx hb dL_law_403 (by decide) ?_
        refine lv_iadd hx hb dL_law_404 ?_
        refine lv_iconst (v := 5) hx hb dL_law_405 (by decide) ?_
        refine lv_iload hx hb dL_law_406 (lv_at hl 16 rfl) ?_
        refine lv_bipush (v := 6) hx hb dL_law_408 (by decide) ?_
        refine lv_ishr hx hb dL_law_410 ?_
        refine lv_topi (fun y42 ey42 => ?_)
        have hp := hp y42 ey42
        refine lv_iconst (v := 3) hx hb dL_law_411 (by decide) ?_
        refine lv_iand hx hb dL_law_412 ?_
        refine lv_topi (fun y43 ey43 => ?_)
        have hp := hp y43 ey43
        refine lv_bipush (v := 15) hx hb dL_law_413 (by decide) ?_
        refine lv_imul hx hb dL_law_415 ?_
        refine lv_iadd hx hb dL_law_416 ?_
        refine va_iast hx hb hK hP hD hS 49 0 rfl rfl hp.1 dL_law_417 (fun H locs hP hD hS => ?_)
        have hp := hp.2
        obtain ⟨g44, eg44⟩ : ∃ z : St, z = st_set g41 5 (((3 : Int32) * x11) + (2 : Int32)).toNatClampNeg ((5 : Int32) + (y43 * (15 : Int32))) := ⟨_, rfl⟩
        have hp := hp g44 eg44
        have hP : va_P (dC, dI) vwCl (wLL b0 qh qs qr qa cI gh gs gr g44) H := by rw [eg44]; exact hP
        have hD : va_D A (wLL b0 qh qs qr qa cI gh gs gr g44) := by rw [eg44]; exact hD
        refine lv_iconst (v := 0) hx hb dL_law_418 (by decide) ?_
        refine lv_istore (lv' := [(23, .int (0 : Int32)), (0, .ref b), (1, .ref b0), (2, .ref (qa 0)), (3, .ref (qa 1)), (4, .ref (qa 2)), (5, .ref (qa 3)), (6, .ref (qa 4)), (7, .ref (qa 5)), (8, .ref (qa 6)), (9, .int x9), (10, .int x10), (11, .int x11), (12, .int x12), (13, .int x13), (14, .int x14), (15, .int x15), (17, .int x17), (18, .int x18), (19, .int x19), (20, .int x20), (21, .int x21), (22, .int x22)]) hx hb dL_law_419 hl (by decide) rfl (fun ls hl => ?_)
        rw [eV421] at hp
        exact hp _ _ _ hP hD hS (lv_sub hl [1, 2, 3, 4, 5, 6, 7, 8, 9, 10, 11, 12, 13, 15, 16, 17, 0] rfl))
  have hp := hp (by
    intro k gh gs gr ga x9 x10 x11 x12 x14 x15 x17 x23 hp
    rw [eV421]
    intro H locs ls hP hD hS hl
    refine lv_iload hx hb dL_law_421 (lv_at hl 16 rfl) ?_
    refine lv_iconst (v := 4) hx hb dL_law_423 (by decide) ?_
    refine lv_icmp_ge (tgt := 459) hx hb dL_law_424 (by decide) (fun c70 => ?_) (fun c70 => ?_)
    · have hp := hp.1 c70
      refine lv_aload_n hx hb dL_law_459 rfl (lv_at hl 1 rfl) ?_
      refine lv_aload hx hb dL_law_460 (lv_at hl 7 rfl) ?_
      refine lv_iconst (v := 3) hx hb dL_law_462 (by decide) ?_
      refine lv_iload hx hb dL_law_463 (lv_at hl 11 rfl) ?_
      refine lv_imul hx hb dL_law_465 ?_
      refine va_iald hx hb hK hP 49 0 rfl rfl hp.1 dL_law_466 ?_
      have hp := hp.2
      refine lv_aload hx hb dL_law_467 (lv_at hl 7 rfl) ?_
      refine lv_iconst (v := 3) hx hb dL_law_469 (by decide) ?_
      refine lv_iload hx hb dL_law_470 (lv_at hl 11 rfl) ?_
      refine lv_imul hx hb dL_law_472 ?_
      refine lv_iconst (v := 1) hx hb dL_law_473 (by decide) ?_
      refine lv_iadd hx hb dL_law_474 ?_
      refine va_iald hx hb hK hP 49 0 rfl rfl hp.1 dL_law_475 ?_
      have hp := hp.2
      refine lv_aload hx hb dL_law_476 (lv_at hl 7 rfl) ?_
      refine lv_iconst (v := 3) hx hb dL_law_478 (by decide) ?_
      refine lv_iload hx hb dL_law_479 (lv_at hl 11 rfl) ?_
      refine lv_imul hx hb dL_law_481 ?_
      refine lv_iconst (v := 2) hx hb dL_law_482 (by decide) ?_
      refine lv_iadd hx hb dL_law_483 ?_
      refine va_iald hx hb hK hP 49 0 rfl rfl hp.1 dL_law_484 ?_
      have hp := hp.2
      refine lv_aload hx hb dL_law_485 (lv_at hl 6 rfl) ?_
      refine lv_iconst (v := 4) hx hb dL_law_487 (by decide) ?_
      refine lv_iload hx hb dL_law_488 (lv_at hl 11 rfl) ?_
      refine lv_imul hx hb dL_law_490 ?_
      refine va_iald hx hb hK hP 48 0 rfl rfl hp.1 dL_law_491 ?_
      have hp := hp.2
      refine lv_aload hx hb dL_law_492 (lv_at hl 6 rfl) ?_
      refine lv_iconst (v := 4) hx hb dL_law_494 (by decide) ?_
      refine lv_iload hx hb dL_law_495 (lv_at hl 11 rfl) ?_
      refine lv_imul hx hb dL_law_497 ?_
      refine lv_iconst (v := 1) hx hb dL_law_498 (by decide) ?_
      refine lv_iadd hx hb dL_law_499 ?_
      refine va_iald hx hb hK hP 48 0 rfl rfl hp.1 dL_law_500 ?_
      have hp := hp.2
      refine lv_aload hx hb dL_law_501 (lv_at hl 6 rfl) ?_
      refine lv_iconst (v := 4) hx hb dL_law_503 (by decide) ?_
      refine lv_iload hx hb dL_law_504 (lv_at hl 11 rfl) ?_
      refine lv_imul hx hb dL_law_506 ?_
      refine lv_iconst (v := 2) hx hb dL_law_507 (by decide) ?_
      refine lv_iadd hx hb dL_law_508 ?_
      refine va_iald hx hb hK hP 48 0 rfl rfl hp.1 dL_law_509 ?_
      have hp := hp.2
      refine lv_aload hx hb dL_law_510 (lv_at hl 6 rfl) ?_
      refine lv_iconst (v := 4) hx hb dL_law_512 (by decide) ?_
      refine lv_iload hx hb dL_law_513 (lv_at hl 11 rfl) ?_
      refine lv_imul hx hb dL_law_515 ?_
      refine lv_iconst (v := 3) hx hb dL_law_516 (by decide) ?_
      refine lv_iadd hx hb dL_law_517 ?_
      refine va_iald hx hb hK hP 48 0 rfl rfl hp.1 dL_law_518 ?_
      have hp := hp.2
      have hkb := hp.1
      have hp := hp.2
      refine pw_V (As := [.int (ga 5 ((3 : Int32) * x11).toNatClampNeg), .int (ga 5 (((3 : Int32) * x11) + (1 : Int32)).toNatClampNeg), .int (ga 5 (((3 : Int32) * x11) + (2 : Int32)).toNatClampNeg), .int (ga 4 ((4 : Int32) * x11).toNatClampNeg), .int (ga 4 (((4 : Int32) * x11) + (1 : Int32)).toNatClampNeg), .int (ga 4 (((4 : Int32) * x11) + (2 : Int32)).toNatClampNeg), .int (ga 4 (((4 : Int32) * x11) + (3 : Int32)).toNatClampNeg)]) (rest := []) (w1 := []) (w2 := wA qa cI ga) (wsd := fun u : St × St × St => wLL b0 qh qs qr qa cI u.1 u.2.1 u.2.2 ga) ⟨hx, hb, hml, hown, hts⟩ (cn_X4_addTitle l dC dI cI b0 qh qs qr gh gs gr (ga 5 ((3 : Int32) * x11).toNatClampNeg) (ga 5 (((3 : Int32) * x11) + (1 : Int32)).toNatClampNeg) (ga 5 (((3 : Int32) * x11) + (2 : Int32)).toNatClampNeg) (ga 4 ((4 : Int32) * x11).toNatClampNeg) (ga 4 (((4 : Int32) * x11) + (1 : Int32)).toNatClampNeg) (ga 4 (((4 : Int32) * x11) + (2 : Int32)).toNatClampNeg) (ga 4 (((4 : Int32) * x11) + (3 : Int32)).toNatClampNeg) _ hp _) (cwV 7 hts gL_law_X4_addTitle rfl rfl rfl (by decide +kernel) ⟨Nat.le_of_ble_eq_true rfl, Nat.le_of_ble_eq_true rfl⟩) hP hD hS hA hK hN (wLL_eq ..) (fun u => rfl) rfl rfl rfl rfl hl.1 (Nat.le_of_ble_eq_true rfl) ⟨by show 200 + 4 * k + 0 ≤ 673973; omega, by show 4000 + 24 * k + 0 ≤ 7079910; omega⟩ dL_law_519 (fun r59 u H locs hp hP hD hS => ?_)
      obtain ⟨gh60, gs61, gr62⟩ := u
      refine lv_iload hx hb dL_law_522 (lv_at hl 11 rfl) ?_
      refine lv_icmp_ne (tgt := 540) hx hb dL_law_524 (by decide) (fun c65 => ?_) (fun c65 => ?_)
      · have hp := hp.1 c65
        refine lv_iconst (v := 0) hx hb dL_law_540 (by decide) ?_
        refine lv_istore (lv' := [(13, .int (0 : Int32)), (0, .ref b), (1, .ref b0), (2, .ref (qa 0)), (3, .ref (qa 1)), (4, .ref (qa 2)), (5, .ref (qa 3)), (6, .ref (qa 4)), (7, .ref (qa 5)), (8, .ref (qa 6)), (9, .int x9), (10, .int x10), (11, .int x11), (12, .int x12), (14, .int x14), (15, .int x15), (17, .int x17), (23, .int x23)]) hx hb dL_law_541 hl (by decide) rfl (fun ls hl => ?_)
        refine lv_iinc (v := x11 + (1 : Int32)) (lv' := [(11, .int (x11 + (1 : Int32))), (13, .int (0 : Int32)), (0, .ref b), (1, .ref b0), (2, .ref (qa 0)), (3, .ref (qa 1)), (4, .ref (qa 2)), (5, .ref (qa 3)), (6, .ref (qa 4)), (7, .ref (qa 5)), (8, .ref (qa 6)), (9, .int x9), (10, .int x10), (12, .int x12), (14, .int x14), (15, .int x15), (17, .int x17), (23, .int x23)]) hx hb dL_law_543 hl (k := 12) rfl rfl (by decide) rfl (fun ls hl => ?_)
        refine lv_goto (tgt := 1770) hx hb dL_law_546 (by decide) ?_
        rw [eV1770] at hp
        exact hp _ _ _ hP hD hS (lv_sub hl [2, 3, 4, 5, 6, 7, 8, 9, 10, 11, 12, 0, 13, 1, 14, 15, 16] rfl)
      · have hp := hp.2 c65
        refine lv_aload_n hx hb dL_law_527 rfl (lv_at hl 1 rfl) ?_
        refine lv_iload hx hb dL_law_528 (lv_at hl 11 rfl) ?_
        have hkb := hp.1
        have hp := hp.2
        obtain ⟨r63, hr63, hp⟩ := hp
        refine ro_V (As := [.int x11]) (rest := []) ⟨hx, hb, hml, hown, hts⟩ (cn_X4_depth l dC dI cI b0 qh qs qr gh60 gs61 gr62 x11 r63 hr63) (cwV 1 hts gL_law_X4_depth rfl rfl rfl (by decide +kernel) ⟨Nat.le_of_ble_eq_true rfl, Nat.le_of_ble_eq_true rfl⟩) (tLL hP) hK hN rfl rfl rfl rfl hl.1 (Nat.le_of_ble_eq_true rfl) ⟨by show 200 + 4 * k ≤ 673973; omega, by show 4000 + 24 * k ≤ 7079910; omega⟩ dL_law_530 ?_
        refine lv_if_ne (tgt := 540) hx hb dL_law_533 (by decide) (fun c64 => ?_) (fun c64 => ?_)
        · have hp := hp.1 c64
          refine lv_iconst (v := 0) hx hb dL_law_540 (by decide) ?_
          refine lv_istore (lv' := [(13, .int (0 : Int32)), (0, .ref b), (1, .ref b0), (2, .ref (qa 0)), (3, .ref (qa 1)), (4, .ref (qa 2)), (5, .ref (qa 3)), (6, .ref (qa 4)), (7, .ref (qa 5)), (8, .ref (qa 6)), (9, .int x9), (10, .int x10), (11, .int x11), (12, .int x12), (14, .int x14), (15, .int x15), (17, .int x17), (23, .int x23)]) hx hb dL_law_541 hl (by decide) rfl (fun ls hl => ?_)
          refine lv_iinc (v := x11 + (1 : Int32)) (lv' := [(11, .int (x11 + (1 : Int32))), (13, .int (0 : Int32)), (0, .ref b), (1, .ref b0), (2, .ref (qa 0)), (3, .ref (qa 1)), (4, .ref (qa 2)), (5, .ref (qa 3)), (6, .ref (qa 4)), (7, .ref (qa 5)), (8, .ref (qa 6)), (9, .int x9), (10, .int x10), (12, .int x12), (14, .int x14), (15, .int x15), (17, .int x17), (23, .int x23)]) hx hb dL_law_543 hl (k := 12) rfl rfl (by decide) rfl (fun ls hl => ?_)
          refine lv_goto (tgt := 1770) hx hb dL_law_546 (by decide) ?_
          rw [eV1770] at hp
          exact hp _ _ _ hP hD hS (lv_sub hl [2, 3, 4, 5, 6, 7, 8, 9, 10, 11, 12, 0, 13, 1, 14, 15, 16] rfl)
        · have hp := hp.2 c64
          refine lv_iconst (v := 1) hx hb dL_law_536 (by decide) ?_
          refine lv_goto (tgt := 541) hx hb dL_law_537 (by decide) ?_
          refine lv_istore (lv' := [(13, .int (1 : Int32)), (0, .ref b), (1, .ref b0), (2, .ref (qa 0)), (3, .ref (qa 1)), (4, .ref (qa 2)), (5, .ref (qa 3)), (6, .ref (qa 4)), (7, .ref (qa 5)), (8, .ref (qa 6)), (9, .int x9), (10, .int x10), (11, .int x11), (12, .int x12), (14, .int x14), (15, .int x15), (17, .int x17), (23, .int x23)]) hx hb dL_law_541 hl (by decide) rfl (fun ls hl => ?_)
          refine lv_iinc (v := x11 + (1 : Int32)) (lv' := [(11, .int (x11 + (1 : Int32))), (13, .int (1 : Int32)), (0, .ref b), (1, .ref b0), (2, .ref (qa 0)), (3, .ref (qa 1)), (4, .ref (qa 2)), (5, .ref (qa 3)), (6, .ref (qa 4)), (7, .ref (qa 5)), (8, .ref (qa 6)), (9, .int x9), (10, .int x10), (12, .int x12), (14, .int x14), (15, .int x15), (17, .int x17), (23, .int x23)]) hx hb dL_law_543 hl (k := 12) rfl rfl (by decide) rfl (fun ls hl => ?_)
          refine lv_goto (tgt := 1770) hx hb dL_law_546 (by decide) ?_
          rw [eV1770] at hp
          exact hp _ _ _ hP hD hS (lv_sub hl [2, 3, 4, 5, 6, 7, 8, 9, 10, 11, 12, 0, 13, 1, 14, 15, 16] rfl)
    · have hp := hp.2 c70
      refine lv_aload hx hb dL_law_427 (lv_at hl 6 rfl) ?_
      refine lv_iconst (v := 4) hx hb dL_law_429 (by decide) ?_
      refine lv_iload hx hb dL_law_430 (lv_at hl 11 rfl) ?_
      refine lv_imul hx hb dL_law_432 ?_
      refine lv_iload hx hb dL_law_433 (lv_at hl 16 rfl) ?_
      refine lv_iadd hx hb dL_law_435 ?_
      refine lv_iload hx hb dL_law_436 (lv_at hl 15 rfl) ?_
      refine lv_bipush (v := 8) hx hb dL_law_438 (by decide) ?_
      refine lv_iconst (v := 3) hx hb dL_law_440 (by decide) ?_
      refine lv_iload hx hb dL_law_441 (lv_at hl 16 rfl) ?_
      refine lv_imul hx hb dL_law_443 ?_
      refine lv_iadd hx hb dL_law_444 ?_
      refine lv_ishr hx hb dL_law_445 ?_
      refine lv_topi (fun y66 ey66 => ?_)
      have hp := hp y66 ey66
      refine lv_bipush (v := 7) hx hb dL_law_446 (by decide) ?_
      refine lv_iand hx hb dL_law_448 ?_
      refine lv_topi (fun y67 ey67 => ?_)
      have hp := hp y67 ey67
      refine lv_bipush (v := 6) hx hb dL_law_449 (by decide) ?_
      refine lv_irem hx hb dL_law_451 hp.1 ?_
      have hp := hp.2
      refine lv_topi (fun y68 ey68 => ?_)
      have hp := hp y68 ey68
      refine va_iast hx hb hK hP hD hS 48 0 rfl rfl hp.1 dL_law_452 (fun H locs hP hD hS => ?_)
      have hp := hp.2
      obtain ⟨g69, eg69⟩ : ∃ z : St, z = st_set ga 4 (((4 : Int32) * x11) + x23).toNatClampNeg y68 := ⟨_, rfl⟩
      have hp := hp g69 eg69
      have hP : va_P (dC, dI) vwCl (wLL b0 qh qs qr qa cI gh gs gr g69) H := by rw [eg69]; exact hP
      have hD : va_D A (wLL b0 qh qs qr qa cI gh gs gr g69) := by rw [eg69]; exact hD
      refine lv_iinc (v := x23 + (1 : Int32)) (lv' := [(23, .int (x23 + (1 : Int32))), (0, .ref b), (1, .ref b0), (2, .ref (qa 0)), (3, .ref (qa 1)), (4, .ref (qa 2)), (5, .ref (qa 3)), (6, .ref (qa 4)), (7, .ref (qa 5)), (8, .ref (qa 6)), (9, .int x9), (10, .int x10), (11, .int x11), (12, .int x12), (14, .int x14), (15, .int x15), (17, .int x17)]) hx hb dL_law_453 hl (k := 16) rfl rfl (by decide) rfl (fun ls hl => ?_)
      refine lv_goto (tgt := 421) hx hb dL_law_456 (by decide) ?_
      rw [eV421] at hp
      exact hp _ _ _ hP hD hS (lv_sub hl [1, 2, 3, 4, 5, 6, 7, 8, 9, 10, 11, 12, 13, 14, 15, 16, 0] rfl))
  have hp := hp (by
    intro k gh gs gr ga x9 x10 x11 x12 x13 x14 x15 x17 x18 x19 x20 x21 x22 hp
    rw [eV549]
    intro H locs ls hP hD hS hl
    refine lv_iload hx hb dL_law_549 (lv_at hl 17 rfl) ?_
    refine lv_iconst (v := 2) hx hb dL_law_551 (by decide) ?_
    refine lv_icmp_ne (tgt := 611) hx hb dL_law_552 (by decide) (fun c58 => ?_) (fun c58 => ?_)
    · have hp := hp.1 c58
      rw [eV611] at hp
      exact hp _ _ _ hP hD hS (lv_sub hl [0, 1, 2, 3, 4, 5, 6, 7, 8, 9, 10, 11, 12, 13, 14, 15, 16, 17, 18, 19, 20, 21] rfl)
    · have hp := hp.2 c58
      refine lv_iload hx hb dL_law_555 (lv_at hl 12 rfl) ?_
      refine lv_bipush (v := 16) hx hb dL_law_557 (by decide) ?_
      refine lv_icmp_ge (tgt := 611) hx hb dL_law_559 (by decide) (fun c57 => ?_) (fun c57 => ?_)
      · have hp := hp.1 c57
        rw [eV611] at hp
        exact hp _ _ _ hP hD hS (lv_sub hl [0, 1, 2, 3, 4, 5, 6, 7, 8, 9, 10, 11, 12, 13, 14, 15, 16, 17, 18, 19, 20, 21] rfl)
      · have hp := hp.2 c57
        refine lv_aload hx hb dL_law_562 (lv_at hl 5 rfl) ?_
        refine lv_iload hx hb dL_law_564 (lv_at hl 12 rfl) ?_
        refine lv_iload hx hb dL_law_566 (lv_at hl 19 rfl) ?_
        refine va_iast hx hb hK hP hD hS 47 0 rfl rfl hp.1 dL_law_568 (fun H locs hP hD hS => ?_)
        have hp := hp.2
        obtain ⟨g47, eg47⟩ : ∃ z : St, z = st_set ga 3 x12.toNatClampNeg x20 := ⟨_, rfl⟩
        have hp := hp g47 eg47
        have hP : va_P (dC, dI) vwCl (wLL b0 qh qs qr qa cI gh gs gr g47) H := by rw [eg47]; exact hP
        have hD : va_D A (wLL b0 qh qs qr qa cI gh gs gr g47) := by rw [eg47]; exact hD
        refine lv_aload_n hx hb dL_law_569 rfl (lv_at hl 1 rfl) ?_
        refine lv_iload hx hb dL_law_570 (lv_at hl 19 rfl) ?_
        have hkb := hp.1
        have hp := hp.2
        refine pw_V (As := [.int x20]) (rest := []) (w1 := []) (w2 := wA qa cI g47) (wsd := fun u : St × St × St => wLL b0 qh qs qr qa cI u.1 u.2.1 u.2.2 g47) ⟨hx, hb, hml, hown, hts⟩ (cn_X4_addCopy l dC dI cI b0 qh qs qr gh gs gr x20 _ hp _) (cwV 1 hts gL_law_X4_addCopy rfl rfl rfl (by decide +kernel) ⟨Nat.le_of_ble_eq_true rfl, Nat.le_of_ble_eq_true rfl⟩) hP hD hS hA hK hN (wLL_eq ..) (fun u => rfl) rfl rfl rfl rfl hl.1 (Nat.le_of_ble_eq_true rfl) ⟨by show 200 + 4 * k + 0 ≤ 673973; omega, by show 4000 + 24 * k + 0 ≤ 7079910; omega⟩ dL_law_572 (fun r48 u H locs hp hP hD hS => ?_)
        obtain ⟨gh49, gs50, gr51⟩ := u
        refine lv_iload hx hb dL_law_575 (lv_at hl 12 rfl) ?_
        refine lv_icmp_ne (tgt := 602) hx hb dL_law_577 (by decide) (fun c56 => ?_) (fun c56 => ?_)
        · have hp := hp.1 c56
          refine lv_iconst (v := 0) hx hb dL_law_602 (by decide) ?_
          refine lv_istore (lv' := [(13, .int (0 : Int32)), (0, .ref b), (1, .ref b0), (2, .ref (qa 0)), (3, .ref (qa 1)), (4, .ref (qa 2)), (5, .ref (qa 3)), (6, .ref (qa 4)), (7, .ref (qa 5)), (8, .ref (qa 6)), (9, .int x9), (10, .int x10), (11, .int x11), (12, .int x12), (14, .int x14), (15, .int x15), (17, .int x17), (18, .int x18), (19, .int x19), (20, .int x20), (21, .int x21), (22, .int x22)]) hx hb dL_law_603 hl (by decide) rfl (fun ls hl => ?_)
          refine lv_iinc (v := x12 + (1 : Int32)) (lv' := [(12, .int (x12 + (1 : Int32))), (13, .int (0 : Int32)), (0, .ref b), (1, .ref b0), (2, .ref (qa 0)), (3, .ref (qa 1)), (4, .ref (qa 2)), (5, .ref (qa 3)), (6, .ref (qa 4)), (7, .ref (qa 5)), (8, .ref (qa 6)), (9, .int x9), (10, .int x10), (11, .int x11), (14, .int x14), (15, .int x15), (17, .int x17), (18, .int x18), (19, .int x19), (20, .int x20), (21, .int x21), (22, .int x22)]) hx hb dL_law_605 hl (k := 13) rfl rfl (by decide) rfl (fun ls hl => ?_)
          refine lv_goto (tgt := 1770) hx hb dL_law_608 (by decide) ?_
          rw [eV1770] at hp
          exact hp _ _ _ hP hD hS (lv_sub hl [2, 3, 4, 5, 6, 7, 8, 9, 10, 11, 12, 13, 0, 1, 14, 15, 16] rfl)
        · have hp := hp.2 c56
          refine lv_aload_n hx hb dL_law_580 rfl (lv_at hl 1 rfl) ?_
          refine lv_iload hx hb dL_law_581 (lv_at hl 12 rfl) ?_
          have hkb := hp.1
          have hp := hp.2
          obtain ⟨r52, hr52, hp⟩ := hp
          refine ro_V (As := [.int x12]) (rest := []) ⟨hx, hb, hml, hown, hts⟩ (cn_X4_stateOf l dC dI cI b0 qh qs qr gh49 gs50 gr51 x12 r52 hr52) (cwV 1 hts gL_law_X4_stateOf rfl rfl rfl (by decide +kernel) ⟨Nat.le_of_ble_eq_true rfl, Nat.le_of_ble_eq_true rfl⟩) (tLL hP) hK hN rfl rfl rfl rfl hl.1 (Nat.le_of_ble_eq_true rfl) ⟨by show 200 + 4 * k ≤ 673973; omega, by show 4000 + 24 * k ≤ 7079910; omega⟩ dL_law_583 ?_
          refine lv_if_ne (tgt := 602) hx hb dL_law_586 (by decide) (fun c55 => ?_) (fun c55 => ?_)
          · have hp := hp.1 c55
            refine lv_iconst (v := 0) hx hb dL_law_602 (by decide) ?_
            refine lv_istore (lv' := [(13, .int (0 : Int32)), (0, .ref b), (1, .ref b0), (2, .ref (qa 0)), (3, .ref (qa 1)), (4, .ref (qa 2)), (5, .ref (qa 3)), (6, .ref (qa 4)), (7, .ref (qa 5)), (8, .ref (qa 6)), (9, .int x9), (10, .int x10), (11, .int x11), (12, .int x12), (14, .int x14), (15, .int x15), (17, .int x17), (18, .int x18), (19, .int x19), (20, .int x20), (21, .int x21), (22, .int x22)]) hx hb dL_law_603 hl (by decide) rfl (fun ls hl => ?_)
            refine lv_iinc (v := x12 + (1 : Int32)) (lv' := [(12, .int (x12 + (1 : Int32))), (13, .int (0 : Int32)), (0, .ref b), (1, .ref b0), (2, .ref (qa 0)), (3, .ref (qa 1)), (4, .ref (qa 2)), (5, .ref (qa 3)), (6, .ref (qa 4)), (7, .ref (qa 5)), (8, .ref (qa 6)), (9, .int x9), (10, .int x10), (11, .int x11), (14, .int x14), (15, .int x15), (17, .int x17), (18, .int x18), (19, .int x19), (20, .int x20), (21, .int x21), (22, .int x22)]) hx hb dL_law_605 hl (k := 13) rfl rfl (by decide) rfl (fun ls hl => ?_)
            refine lv_goto (tgt := 1770) hx hb dL_law_608 (by decide) ?_
            rw [eV1770] at hp
            exact hp _ _ _ hP hD hS (lv_sub hl [2, 3, 4, 5, 6, 7, 8, 9, 10, 11, 12, 13, 0, 1, 14, 15, 16] rfl)
          · have hp := hp.2 c55
            refine lv_aload_n hx hb dL_law_589 rfl (lv_at hl 1 rfl) ?_
            refine lv_iload hx hb dL_law_590 (lv_at hl 12 rfl) ?_
            have hkb := hp.1
            have hp := hp.2
            obtain ⟨r53, hr53, hp⟩ := hp
            refine ro_V (As := [.int x12]) (rest := []) ⟨hx, hb, hml, hown, hts⟩ (cn_X4_lenders l dC dI cI b0 qh qs qr gh49 gs50 gr51 x12 r53 hr53) (cwV 1 hts gL_law_X4_lenders rfl rfl rfl (by decide +kernel) ⟨Nat.le_of_ble_eq_true rfl, Nat.le_of_ble_eq_true rfl⟩) (tLL hP) hK hN rfl rfl rfl rfl hl.1 (Nat.le_of_ble_eq_true rfl) ⟨by show 200 + 4 * k ≤ 673973; omega, by show 4000 + 24 * k ≤ 7079910; omega⟩ dL_law_592 ?_
            refine lv_if_ne (tgt := 602) hx hb dL_law_595 (by decide) (fun c54 => ?_) (fun c54 => ?_)
            · have hp := hp.1 c54
              refine lv_iconst (v := 0) hx hb dL_law_602 (by decide) ?_
              refine lv_istore (lv' := [(13, .int (0 : Int32)), (0, .ref b), (1, .ref b0), (2, .ref (qa 0)), (3, .ref (qa 1)), (4, .ref (qa 2)), (5, .ref (qa 3)), (6, .ref (qa 4)), (7, .ref (qa 5)), (8, .ref (qa 6)), (9, .int x9), (10, .int x10), (11, .int x11), (12, .int x12), (14, .int x14), (15, .int x15), (17, .int x17), (18, .int x18), (19, .int x19), (20, .int x20), (21, .int x21), (22, .int x22)]) hx hb dL_law_603 hl (by decide) rfl (fun ls hl => ?_)
              refine lv_iinc (v := x12 + (1 : Int32)) (lv' := [(12, .int (x12 + (1 : Int32))), (13, .int (0 : Int32)), (0, .ref b), (1, .ref b0), (2, .ref (qa 0)), (3, .ref (qa 1)), (4, .ref (qa 2)), (5, .ref (qa 3)), (6, .ref (qa 4)), (7, .ref (qa 5)), (8, .ref (qa 6)), (9, .int x9), (10, .int x10), (11, .int x11), (14, .int x14), (15, .int x15), (17, .int x17), (18, .int x18), (19, .int x19), (20, .int x20), (21, .int x21), (22, .int x22)]) hx hb dL_law_605 hl (k := 13) rfl rfl (by decide) rfl (fun ls hl => ?_)
              refine lv_goto (tgt := 1770) hx hb dL_law_608 (by decide) ?_
              rw [eV1770] at hp
              exact hp _ _ _ hP hD hS (lv_sub hl [2, 3, 4, 5, 6, 7, 8, 9, 10, 11, 12, 13, 0, 1, 14, 15, 16] rfl)
            · have hp := hp.2 c54
              refine lv_iconst (v := 1) hx hb dL_law_598 (by decide) ?_
              refine lv_goto (tgt := 603) hx hb dL_law_599 (by decide) ?_
              refine lv_istore (lv' := [(13, .int (1 : Int32)), (0, .ref b), (1, .ref b0), (2, .ref (qa 0)), (3, .ref (qa 1)), (4, .ref (qa 2)), (5, .ref (qa 3)), (6, .ref (qa 4)), (7, .ref (qa 5)), (8, .ref (qa 6)), (9, .int x9), (10, .int x10), (11, .int x11), (12, .int x12), (14, .int x14), (15, .int x15), (17, .int x17), (18, .int x18), (19, .int x19), (20, .int x20), (21, .int x21), (22, .int x22)]) hx hb dL_law_603 hl (by decide) rfl (fun ls hl => ?_)
              refine lv_iinc (v := x12 + (1 : Int32)) (lv' := [(12, .int (x12 + (1 : Int32))), (13, .int (1 : Int32)), (0, .ref b), (1, .ref b0), (2, .ref (qa 0)), (3, .ref (qa 1)), (4, .ref (qa 2)), (5, .ref (qa 3)), (6, .ref (qa 4)), (7, .ref (qa 5)), (8, .ref (qa 6)), (9, .int x9), (10, .int x10), (11, .int x11), (14, .int x14), (15, .int x15), (17, .int x17), (18, .int x18), (19, .int x19), (20, .int x20), (21, .int x21), (22, .int x22)]) hx hb dL_law_605 hl (k := 13) rfl rfl (by decide) rfl (fun ls hl => ?_)
              refine lv_goto (tgt := 1770) hx hb dL_law_608 (by decide) ?_
              rw [eV1770] at hp
              exact hp _ _ _ hP hD hS (lv_sub hl [2, 3, 4, 5, 6, 7, 8, 9, 10, 11, 12, 13, 0, 1, 14, 15, 16] rfl))
  have hp := hp (by
    intro k gh gs gr ga x9 x10 x11 x12 x13 x14 x15 x17 x18 x19 x20 x21 x22 hp
    rw [eV611]
    intro H locs ls hP hD hS hl
    refine lv_iload hx hb dL_law_611 (lv_at hl 17 rfl) ?_
    refine lv_iconst (v := 4) hx hb dL_law_613 (by decide) ?_
    refine lv_icmp_ge (tgt := 771) hx hb dL_law_614 (by decide) (fun c86 => ?_) (fun c86 => ?_)
    · have hp := hp.1 c86
      rw [eV771] at hp
      exact hp _ _ _ hP hD hS (lv_sub hl [0, 1, 2, 3, 4, 5, 6, 7, 8, 9, 10, 11, 12, 13, 14, 15, 16, 17, 18, 19, 20, 21] rfl)
    · have hp := hp.2 c86
      refine lv_aload hx hb dL_law_617 (lv_at hl 8 rfl) ?_
      refine lv_iload hx hb dL_law_619 (lv_at hl 19 rfl) ?_
      refine va_iald hx hb hK hP 50 0 rfl rfl hp.1 dL_law_621 ?_
      have hp := hp.2
      refine lv_bipush (v := 12) hx hb dL_law_622 (by decide) ?_
      refine lv_icmp_ge (tgt := 771) hx hb dL_law_624 (by decide) (fun c85 => ?_) (fun c85 => ?_)
      · have hp := hp.1 c85
        rw [eV771] at hp
        exact hp _ _ _ hP hD hS (lv_sub hl [0, 1, 2, 3, 4, 5, 6, 7, 8, 9, 10, 11, 12, 13, 14, 15, 16, 17, 18, 19, 20, 21] rfl)
      · have hp := hp.2 c85
        refine lv_aload hx hb dL_law_627 (lv_at hl 8 rfl) ?_
        refine lv_iload hx hb dL_law_629 (lv_at hl 19 rfl) ?_
        refine va_iald hx hb hK hP 50 0 rfl rfl hp.1 dL_law_631 ?_
        have hp := hp.2
        refine lv_if_eq (tgt := 644) hx hb dL_law_632 (by decide) (fun c84 => ?_) (fun c84 => ?_)
        · have hp := hp.1 c84
          rw [eV644] at hp
          exact hp _ _ _ hP hD hS (lv_sub hl [0, 1, 2, 3, 4, 5, 6, 7, 8, 9, 10, 11, 12, 14, 15, 16, 19] rfl)
        · have hp := hp.2 c84
          refine lv_iload hx hb dL_law_635 (lv_at hl 16 rfl) ?_
          refine lv_iconst (v := 3) hx hb dL_law_637 (by decide) ?_
          refine lv_ishr hx hb dL_law_638 ?_
          refine lv_topi (fun y79 ey79 => ?_)
          have hp := hp y79 ey79
          refine lv_iconst (v := 3) hx hb dL_law_639 (by decide) ?_
          refine lv_iand hx hb dL_law_640 ?_
          refine lv_topi (fun y80 ey80 => ?_)
          have hp := hp y80 ey80
          refine lv_if_ne (tgt := 648) hx hb dL_law_641 (by decide) (fun c83 => ?_) (fun c83 => ?_)
          · have hp := hp.1 c83
            refine lv_iload hx hb dL_law_648 (lv_at hl 16 rfl) ?_
            refine lv_iconst (v := 5) hx hb dL_law_650 (by decide) ?_
            refine lv_ishr hx hb dL_law_651 ?_
            refine lv_topi (fun y81 ey81 => ?_)
            have hp := hp y81 ey81
            refine lv_aload hx hb dL_law_652 (lv_at hl 8 rfl) ?_
            refine lv_iload hx hb dL_law_654 (lv_at hl 19 rfl) ?_
            refine va_iald hx hb hK hP 50 0 rfl rfl hp.1 dL_law_656 ?_
            have hp := hp.2
            refine lv_irem hx hb dL_law_657 hp.1 ?_
            have hp := hp.2
            refine lv_topi (fun y82 ey82 => ?_)
            have hp := hp y82 ey82
            rw [eV658] at hp
            exact hp _ _ _ hP hD hS (lv_sub hl [0, 1, 2, 3, 4, 5, 6, 7, 8, 9, 10, 11, 12, 14, 15, 16, 19] rfl)
          · have hp := hp.2 c83
            rw [eV644] at hp
            exact hp _ _ _ hP hD hS (lv_sub hl [0, 1, 2, 3, 4, 5, 6, 7, 8, 9, 10, 11, 12, 14, 15, 16, 19] rfl))
  have hp := hp (by
    intro k gh gs gr ga x9 x10 x11 x12 x14 x15 x17 x20 hp
    rw [eV644]
    intro H locs ls hP hD hS hl
    refine lv_iconst (v := -1) hx hb dL_law_644 (by decide) ?_
    refine lv_goto (tgt := 658) hx hb dL_law_645 (by decide) ?_
    rw [eV658] at hp
    exact hp _ _ _ hP hD hS (lv_sub hl [0, 1, 2, 3, 4, 5, 6, 7, 8, 9, 10, 11, 12, 13, 14, 15, 16] rfl))
  have hp := hp (by
    intro k gh gs gr ga x9 x10 x11 x12 x14 x15 x17 x20 t0 hp
    rw [eV658]
    intro H locs ls hP hD hS hl
    refine lv_istore (lv' := [(23, .int t0), (0, .ref b), (1, .ref b0), (2, .ref (qa 0)), (3, .ref (qa 1)), (4, .ref (qa 2)), (5, .ref (qa 3)), (6, .ref (qa 4)), (7, .ref (qa 5)), (8, .ref (qa 6)), (9, .int x9), (10, .int x10), (11, .int x11), (12, .int x12), (14, .int x14), (15, .int x15), (17, .int x17), (20, .int x20)]) hx hb dL_law_658 hl (by decide) rfl (fun ls hl => ?_)
    refine lv_aload_n hx hb dL_law_660 rfl (lv_at hl 2 rfl) ?_
    refine lv_iload hx hb dL_law_661 (lv_at hl 17 rfl) ?_
    have hkb := hp.1
    have hp := hp.2
    obtain ⟨r99, hr99, hp⟩ := hp
    refine ro_V (As := [.int x20]) (rest := []) ⟨hx, hb, hml, hown, hts⟩ (cn_X4_depth l dC dI cI b0 qh qs qr gh gs gr x20 r99 hr99) (cwV 1 hts gL_law_X4_depth rfl rfl rfl (by decide +kernel) ⟨Nat.le_of_ble_eq_true rfl, Nat.le_of_ble_eq_true rfl⟩) (tLL hP) hK hN rfl rfl rfl rfl hl.1 (Nat.le_of_ble_eq_true rfl) ⟨by show 200 + 4 * k ≤ 673973; omega, by show 4000 + 24 * k ≤ 7079910; omega⟩ dL_law_663 ?_
    refine lv_istore (lv' := [(24, .int r99), (23, .int t0), (0, .ref b), (1, .ref b0), (2, .ref (qa 0)), (3, .ref (qa 1)), (4, .ref (qa 2)), (5, .ref (qa 3)), (6, .ref (qa 4)), (7, .ref (qa 5)), (8, .ref (qa 6)), (9, .int x9), (10, .int x10), (11, .int x11), (12, .int x12), (14, .int x14), (15, .int x15), (17, .int x17), (20, .int x20)]) hx hb dL_law_666 hl (by decide) rfl (fun ls hl => ?_)
    refine lv_aload_n hx hb dL_law_668 rfl (lv_at hl 3 rfl) ?_
    refine lv_iload hx hb dL_law_669 (lv_at hl 18 rfl) ?_
    refine lv_iload hx hb dL_law_671 (lv_at hl 1 rfl) ?_
    refine lv_iload hx hb dL_law_673 (lv_at hl 17 rfl) ?_
    refine lv_bipush (v := 9) hx hb dL_law_675 (by decide) ?_
    refine lv_ishr hx hb dL_law_677 ?_
    refine lv_topi (fun y100 ey100 => ?_)
    have hp := hp y100 ey100
    refine lv_iconst (v := 3) hx hb dL_law_678 (by decide) ?_
    refine lv_iand hx hb dL_law_679 ?_
    refine lv_topi (fun y101 ey101 => ?_)
    have hp := hp y101 ey101
    refine lv_iconst (v := 1) hx hb dL_law_680 (by decide) ?_
    refine lv_iload hx hb dL_law_681 (lv_at hl 17 rfl) ?_
    refine lv_bipush (v := 11) hx hb dL_law_683 (by decide) ?_
    refine lv_ishr hx hb dL_law_685 ?_
    refine lv_topi (fun y102 ey102 => ?_)
    have hp := hp y102 ey102
    refine lv_bipush (v := 40) hx hb dL_law_686 (by decide) ?_
    refine lv_irem hx hb dL_law_688 hp.1 ?_
    have hp := hp.2
    refine lv_topi (fun y103 ey103 => ?_)
    have hp := hp y103 ey103
    refine lv_iadd hx hb dL_law_689 ?_
    refine lv_iload hx hb dL_law_690 (lv_at hl 17 rfl) ?_
    refine lv_bipush (v := 18) hx hb dL_law_692 (by decide) ?_
    refine lv_ishr hx hb dL_law_694 ?_
    refine lv_topi (fun y104 ey104 => ?_)
    have hp := hp y104 ey104
    refine lv_bipush (v := 100) hx hb dL_law_695 (by decide) ?_
    refine lv_irem hx hb dL_law_697 hp.1 ?_
    have hp := hp.2
    refine lv_topi (fun y105 ey105 => ?_)
    have hp := hp y105 ey105
    have hkb := hp.1
    have hp := hp.2
    refine pw_V (As := [.int x20, .int t0, .int y101, .int ((1 : Int32) + y103), .int y105]) (rest := []) (w1 := []) (w2 := wA qa cI ga) (wsd := fun u : St × St × St => wLL b0 qh qs qr qa cI u.1 u.2.1 u.2.2 ga) ⟨hx, hb, hml, hown, hts⟩ (cn_X4_addRule l dC dI cI b0 qh qs qr gh gs gr x20 t0 y101 ((1 : Int32) + y103) y105 _ hp _) (cwV 5 hts gL_law_X4_addRule rfl rfl rfl (by decide +kernel) ⟨Nat.le_of_ble_eq_true rfl, Nat.le_of_ble_eq_true rfl⟩) hP hD hS hA hK hN (wLL_eq ..) (fun u => rfl) rfl rfl rfl rfl hl.1 (Nat.le_of_ble_eq_true rfl) ⟨by show 200 + 4 * k + 0 ≤ 673973; omega, by show 4000 + 24 * k + 0 ≤ 7079910; omega⟩ dL_law_698 (fun r106 u H locs hp hP hD hS => ?_)
    obtain ⟨gh107, gs108, gr109⟩ := u
    refine lv_aload hx hb dL_law_701 (lv_at hl 10 rfl) ?_
    refine lv_iload hx hb dL_law_703 (lv_at hl 18 rfl) ?_
    refine va_iald hx hb hK hP 50 0 rfl rfl hp.1 dL_law_705 ?_
    have hp := hp.2
    refine lv_icmp_ne (tgt := 756) hx hb dL_law_706 (by decide) (fun c116 => ?_) (fun c116 => ?_)
    · have hp := hp.1 c116
      rw [eV756] at hp
      exact hp _ _ _ hP hD hS (lv_sub hl [2, 3, 4, 5, 6, 7, 8, 9, 10, 11, 12, 13, 14, 15, 16, 17, 18] rfl)
    · have hp := hp.2 c116
      refine lv_aload_n hx hb dL_law_709 rfl (lv_at hl 3 rfl) ?_
      refine lv_iload hx hb dL_law_710 (lv_at hl 18 rfl) ?_
      have hkb := hp.1
      have hp := hp.2
      obtain ⟨r110, hr110, hp⟩ := hp
      refine ro_V (As := [.int x20]) (rest := []) ⟨hx, hb, hml, hown, hts⟩ (cn_X4_depth l dC dI cI b0 qh qs qr gh107 gs108 gr109 x20 r110 hr110) (cwV 1 hts gL_law_X4_depth rfl rfl rfl (by decide +kernel) ⟨Nat.le_of_ble_eq_true rfl, Nat.le_of_ble_eq_true rfl⟩) (tLL hP) hK hN rfl rfl rfl rfl hl.1 (Nat.le_of_ble_eq_true rfl) ⟨by show 200 + 4 * k ≤ 673973; omega, by show 4000 + 24 * k ≤ 7079910; omega⟩ dL_law_712 ?_
      refine lv_iload hx hb dL_law_715 (lv_at hl 0 rfl) ?_
      refine lv_icmp_lt (tgt := 756) hx hb dL_law_717 (by decide) (fun c115 => ?_) (fun c115 => ?_)
      · have hp := hp.1 c115
        rw [eV756] at hp
        exact hp _ _ _ hP hD hS (lv_sub hl [2, 3, 4, 5, 6, 7, 8, 9, 10, 11, 12, 13, 14, 15, 16, 17, 18] rfl)
      · have hp := hp.2 c115
        refine lv_aload_n hx hb dL_law_720 rfl (lv_at hl 3 rfl) ?_
        refine lv_iload hx hb dL_law_721 (lv_at hl 18 rfl) ?_
        have hkb := hp.1
        have hp := hp.2
        obtain ⟨r111, hr111, hp⟩ := hp
        refine ro_V (As := [.int x20]) (rest := []) ⟨hx, hb, hml, hown, hts⟩ (cn_X4_depth l dC dI cI b0 qh qs qr gh107 gs108 gr109 x20 r111 hr111) (cwV 1 hts gL_law_X4_depth rfl rfl rfl (by decide +kernel) ⟨Nat.le_of_ble_eq_true rfl, Nat.le_of_ble_eq_true rfl⟩) (tLL hP) hK hN rfl rfl rfl rfl hl.1 (Nat.le_of_ble_eq_true rfl) ⟨by show 200 + 4 * k ≤ 673973; omega, by show 4000 + 24 * k ≤ 7079910; omega⟩ dL_law_723 ?_
        refine lv_iload hx hb dL_law_726 (lv_at hl 0 rfl) ?_
        refine lv_iconst (v := 1) hx hb dL_law_728 (by decide) ?_
        refine lv_iadd hx hb dL_law_729 ?_
        refine lv_icmp_gt (tgt := 756) hx hb dL_law_730 (by decide) (fun c114 => ?_) (fun c114 => ?_)
        · have hp := hp.1 c114
          rw [eV756] at hp
          exact hp _ _ _ hP hD hS (lv_sub hl [2, 3, 4, 5, 6, 7, 8, 9, 10, 11, 12, 13, 14, 15, 16, 17, 18] rfl)
        · have hp := hp.2 c114
          refine lv_aload_n hx hb dL_law_733 rfl (lv_at hl 3 rfl) ?_
          refine lv_iload hx hb dL_law_734 (lv_at hl 18 rfl) ?_
          have hkb := hp.1
          have hp := hp.2
          obtain ⟨r112, hr112, hp⟩ := hp
          refine ro_V (As := [.int x20]) (rest := []) ⟨hx, hb, hml, hown, hts⟩ (cn_X4_depth l dC dI cI b0 qh qs qr gh107 gs108 gr109 x20 r112 hr112) (cwV 1 hts gL_law_X4_depth rfl rfl rfl (by decide +kernel) ⟨Nat.le_of_ble_eq_true rfl, Nat.le_of_ble_eq_true rfl⟩) (tLL hP) hK hN rfl rfl rfl rfl hl.1 (Nat.le_of_ble_eq_true rfl) ⟨by show 200 + 4 * k ≤ 673973; omega, by show 4000 + 24 * k ≤ 7079910; omega⟩ dL_law_736 ?_
          refine lv_iload hx hb dL_law_739 (lv_at hl 1 rfl) ?_
          refine lv_if_ge (tgt := 748) hx hb dL_law_741 (by decide) (fun c113 => ?_) (fun c113 => ?_)
          · have hp := hp.1 c113
            refine lv_iconst (v := 2) hx hb dL_law_748 (by decide) ?_
            rw [eV749] at hp
            exact hp _ _ _ hP hD hS (lv_sub hl [2, 3, 4, 5, 6, 7, 8, 9, 10, 11, 12, 13, 14, 15, 16, 17, 18] rfl)
          · have hp := hp.2 c113
            refine lv_iconst (v := 1) hx hb dL_law_744 (by decide) ?_
            refine lv_goto (tgt := 749) hx hb dL_law_745 (by decide) ?_
            rw [eV749] at hp
            exact hp _ _ _ hP hD hS (lv_sub hl [2, 3, 4, 5, 6, 7, 8, 9, 10, 11, 12, 13, 14, 15, 16, 17, 18] rfl))
  have hp := hp (by
    intro k gh gs gr ga x9 x10 x11 x12 x14 x15 x17 x20 t0 t1 hp
    rw [eV749]
    intro H locs ls hP hD hS hl
    refine lv_icmp_lt (tgt := 756) hx hb dL_law_749 (by decide) (fun c158 => ?_) (fun c158 => ?_)
    · have hp := hp.1 c158
      rw [eV756] at hp
      exact hp _ _ _ hP hD hS (lv_sub hl [0, 1, 2, 3, 4, 5, 6, 7, 8, 9, 10, 11, 12, 13, 14, 15, 16] rfl)
    · have hp := hp.2 c158
      refine lv_iconst (v := 1) hx hb dL_law_752 (by decide) ?_
      refine lv_goto (tgt := 757) hx hb dL_law_753 (by decide) ?_
      rw [eV757] at hp
      exact hp _ _ _ hP hD hS (lv_sub hl [0, 1, 2, 3, 4, 5, 6, 7, 8, 9, 10, 11, 12, 13, 14, 15, 16] rfl))
  have hp := hp (by
    intro k gh gs gr ga x9 x10 x11 x12 x14 x15 x17 x20 hp
    rw [eV756]
    intro H locs ls hP hD hS hl
    refine lv_iconst (v := 0) hx hb dL_law_756 (by decide) ?_
    rw [eV757] at hp
    exact hp _ _ _ hP hD hS (lv_sub hl [0, 1, 2, 3, 4, 5, 6, 7, 8, 9, 10, 11, 12, 13, 14, 15, 16] rfl))
  have hp := hp (by
    intro k gh gs gr ga x9 x10 x11 x12 x14 x15 x17 x20 t0 hp
    rw [eV757]
    intro H locs ls hP hD hS hl
    refine lv_istore (lv' := [(13, .int t0), (0, .ref b), (1, .ref b0), (2, .ref (qa 0)), (3, .ref (qa 1)), (4, .ref (qa 2)), (5, .ref (qa 3)), (6, .ref (qa 4)), (7, .ref (qa 5)), (8, .ref (qa 6)), (9, .int x9), (10, .int x10), (11, .int x11), (12, .int x12), (14, .int x14), (15, .int x15), (17, .int x17), (20, .int x20)]) hx hb dL_law_757 hl (by decide) rfl (fun ls hl => ?_)
    refine lv_aload hx hb dL_law_759 (lv_at hl 9 rfl) ?_
    refine lv_iload hx hb dL_law_761 (lv_at hl 17 rfl) ?_
    refine lv_dup2_11 hx hb dL_law_763 rfl rfl ?_
    refine va_iald hx hb hK hP 50 0 rfl rfl hp.1 dL_law_764 ?_
    have hp := hp.2
    refine lv_iconst (v := 1) hx hb dL_law_765 (by decide) ?_
    refine lv_iadd hx hb dL_law_766 ?_
    refine va_iast hx hb hK hP hD hS 50 0 rfl rfl hp.1 dL_law_767 (fun H locs hP hD hS => ?_)
    have hp := hp.2
    obtain ⟨g186, eg186⟩ : ∃ z : St, z = st_set ga 6 x20.toNatClampNeg ((ga 6 x20.toNatClampNeg) + (1 : Int32)) := ⟨_, rfl⟩
    have hp := hp g186 eg186
    have hP : va_P (dC, dI) vwCl (wLL b0 qh qs qr qa cI gh gs gr g186) H := by rw [eg186]; exact hP
    have hD : va_D A (wLL b0 qh qs qr qa cI gh gs gr g186) := by rw [eg186]; exact hD
    refine lv_goto (tgt := 1770) hx hb dL_law_768 (by decide) ?_
    rw [eV1770] at hp
    exact hp _ _ _ hP hD hS (lv_sub hl [1, 2, 3, 4, 5, 6, 7, 8, 9, 10, 11, 12, 13, 0, 14, 15, 16] rfl))
  have hp := hp (by
    intro k gh gs gr ga x9 x10 x11 x12 x13 x14 x15 x17 x18 x19 x20 x21 x22 hp
    rw [eV771]
    intro H locs ls hP hD hS hl
    refine lv_iload hx hb dL_law_771 (lv_at hl 17 rfl) ?_
    refine lv_bipush (v := 6) hx hb dL_law_773 (by decide) ?_
    refine lv_icmp_ge (tgt := 987) hx hb dL_law_775 (by decide) (fun c98 => ?_) (fun c98 => ?_)
    · have hp := hp.1 c98
      rw [eV987] at hp
      exact hp _ _ _ hP hD hS (lv_sub hl [0, 1, 2, 3, 4, 5, 6, 7, 8, 9, 10, 11, 12, 13, 14, 15, 16, 17, 18, 19, 20, 21] rfl)
    · have hp := hp.2 c98
      refine lv_iload hx hb dL_law_778 (lv_at hl 10 rfl) ?_
      refine lv_bipush (v := 30) hx hb dL_law_780 (by decide) ?_
      refine lv_icmp_ge (tgt := 987) hx hb dL_law_782 (by decide) (fun c97 => ?_) (fun c97 => ?_)
      · have hp := hp.1 c97
        rw [eV987] at hp
        exact hp _ _ _ hP hD hS (lv_sub hl [0, 1, 2, 3, 4, 5, 6, 7, 8, 9, 10, 11, 12, 13, 14, 15, 16, 17, 18, 19, 20, 21] rfl)
      · have hp := hp.2 c97
        refine lv_aload_n hx hb dL_law_785 rfl (lv_at hl 3 rfl) ?_
        refine lv_iload hx hb dL_law_786 (lv_at hl 10 rfl) ?_
        refine lv_iconst (v := 1) hx hb dL_law_788 (by decide) ?_
        refine lv_iload hx hb dL_law_789 (lv_at hl 16 rfl) ?_
        refine lv_iconst (v := 3) hx hb dL_law_791 (by decide) ?_
        refine lv_ishr hx hb dL_law_792 ?_
        refine lv_topi (fun y94 ey94 => ?_)
        have hp := hp y94 ey94
        refine lv_iload hx hb dL_law_793 (lv_at hl 16 rfl) ?_
        refine lv_iconst (v := 1) hx hb dL_law_795 (by decide) ?_
        refine lv_iand hx hb dL_law_796 ?_
        refine lv_topi (fun y95 ey95 => ?_)
        have hp := hp y95 ey95
        refine lv_if_ne (tgt := 804) hx hb dL_law_797 (by decide) (fun c96 => ?_) (fun c96 => ?_)
        · have hp := hp.1 c96
          refine lv_bipush (v := 12) hx hb dL_law_804 (by decide) ?_
          rw [eV806] at hp
          exact hp _ _ _ hP hD hS (lv_sub hl [0, 1, 2, 3, 4, 5, 6, 7, 8, 9, 10, 11, 12, 14, 15, 16] rfl)
        · have hp := hp.2 c96
          refine lv_iconst (v := 4) hx hb dL_law_800 (by decide) ?_
          refine lv_goto (tgt := 806) hx hb dL_law_801 (by decide) ?_
          rw [eV806] at hp
          exact hp _ _ _ hP hD hS (lv_sub hl [0, 1, 2, 3, 4, 5, 6, 7, 8, 9, 10, 11, 12, 14, 15, 16] rfl))
  have hp := hp (by
    intro k gh gs gr ga x9 x10 x11 x12 x14 x15 x17 t0 t1 t2 t3 hp
    rw [eV806]
    intro H locs ls hP hD hS hl
    refine lv_irem hx hb dL_law_806 hp.1 ?_
    have hp := hp.2
    refine lv_topi (fun y145 ey145 => ?_)
    have hp := hp y145 ey145
    refine lv_iadd hx hb dL_law_807 ?_
    refine va_iast hx hb hK hP hD hS 45 0 rfl rfl hp.1 dL_law_808 (fun H locs hP hD hS => ?_)
    have hp := hp.2
    obtain ⟨g146, eg146⟩ : ∃ z : St, z = st_set ga 1 t3.toNatClampNeg (t2 + y145) := ⟨_, rfl⟩
    have hp := hp g146 eg146
    have hP : va_P (dC, dI) vwCl (wLL b0 qh qs qr qa cI gh gs gr g146) H := by rw [eg146]; exact hP
    have hD : va_D A (wLL b0 qh qs qr qa cI gh gs gr g146) := by rw [eg146]; exact hD
    refine lv_aload_n hx hb dL_law_809 rfl (lv_at hl 1 rfl) ?_
    refine lv_aload_n hx hb dL_law_810 rfl (lv_at hl 3 rfl) ?_
    refine lv_iload hx hb dL_law_811 (lv_at hl 10 rfl) ?_
    refine va_iald hx hb hK hP 45 0 rfl rfl hp.1 dL_law_813 ?_
    have hp := hp.2
    have hkb := hp.1
    have hp := hp.2
    obtain ⟨r147, hr147, hp⟩ := hp
    refine ro_V (As := [.int (g146 1 x10.toNatClampNeg)]) (rest := []) ⟨hx, hb, hml, hown, hts⟩ (cn_X4_waste l dC dI cI b0 qh qs qr gh gs gr (g146 1 x10.toNatClampNeg) r147 hr147) (cwV 1 hts gL_law_X4_waste rfl rfl rfl (by decide +kernel) ⟨Nat.le_of_ble_eq_true rfl, Nat.le_of_ble_eq_true rfl⟩) (tLL hP) hK hN rfl rfl rfl rfl hl.1 (Nat.le_of_ble_eq_true rfl) ⟨by show 200 + 4 * k ≤ 673973; omega, by show 4000 + 24 * k ≤ 7079910; omega⟩ dL_law_814 ?_
    refine lv_istore (lv' := [(23, .int r147), (0, .ref b), (1, .ref b0), (2, .ref (qa 0)), (3, .ref (qa 1)), (4, .ref (qa 2)), (5, .ref (qa 3)), (6, .ref (qa 4)), (7, .ref (qa 5)), (8, .ref (qa 6)), (9, .int x9), (10, .int x10), (11, .int x11), (12, .int x12), (14, .int x14), (15, .int x15), (17, .int x17)]) hx hb dL_law_817 hl (by decide) rfl (fun ls hl => ?_)
    refine lv_aload_n hx hb dL_law_819 rfl (lv_at hl 2 rfl) ?_
    have hkb := hp.1
    have hp := hp.2
    obtain ⟨r148, hr148, hp⟩ := hp
    refine ro_V (As := []) (rest := []) ⟨hx, hb, hml, hown, hts⟩ (c_X4_waiting l dC dI cI b0 qh qs qr gh gs gr r148 hr148) (cwV 0 hts gL_law_X4_waiting rfl rfl rfl (by decide +kernel) ⟨Nat.le_of_ble_eq_true rfl, Nat.le_of_ble_eq_true rfl⟩) (tLL hP) hK hN rfl rfl rfl rfl hl.1 (Nat.le_of_ble_eq_true rfl) ⟨by show 200 + 4 * k ≤ 673973; omega, by show 4000 + 24 * k ≤ 7079910; omega⟩ dL_law_820 ?_
    refine lv_istore (lv' := [(24, .int r148), (23, .int r147), (0, .ref b), (1, .ref b0), (2, .ref (qa 0)), (3, .ref (qa 1)), (4, .ref (qa 2)), (5, .ref (qa 3)), (6, .ref (qa 4)), (7, .ref (qa 5)), (8, .ref (qa 6)), (9, .int x9), (10, .int x10), (11, .int x11), (12, .int x12), (14, .int x14), (15, .int x15), (17, .int x17)]) hx hb dL_law_823 hl (by decide) rfl (fun ls hl => ?_)
    refine lv_aload_n hx hb dL_law_825 rfl (lv_at hl 3 rfl) ?_
    refine lv_bipush (v := 8) hx hb dL_law_826 (by decide) ?_
    refine lv_aload_n hx hb dL_law_828 rfl (lv_at hl 5 rfl) ?_
    refine lv_iload hx hb dL_law_829 (lv_at hl 12 rfl) ?_
    refine va_iald hx hb hK hP 45 0 rfl rfl hp.1 dL_law_831 ?_
    have hp := hp.2
    refine lv_bipush (v := 10) hx hb dL_law_832 (by decide) ?_
    refine lv_iload hx hb dL_law_834 (lv_at hl 17 rfl) ?_
    refine lv_bipush (v := 7) hx hb dL_law_836 (by decide) ?_
    refine lv_ishr hx hb dL_law_838 ?_
    refine lv_topi (fun y149 ey149 => ?_)
    have hp := hp y149 ey149
    refine lv_bipush (v := 120) hx hb dL_law_839 (by decide) ?_
    refine lv_irem hx hb dL_law_841 hp.1 ?_
    have hp := hp.2
    refine lv_topi (fun y150 ey150 => ?_)
    have hp := hp y150 ey150
    refine lv_iadd hx hb dL_law_842 ?_
    refine lv_iconst (v := 0) hx hb dL_law_843 (by decide) ?_
    have hkb := hp.1
    have hp := hp.2
    refine pw_SW (As := [.ref b0, .int (8 : Int32), .int (g146 1 x10.toNatClampNeg), .int ((10 : Int32) + y150), .int (0 : Int32)]) (rest := []) (w1 := []) (w2 := wA qa cI g146) (wsd := fun u : St × St × St => wLL b0 qh qs qr qa cI u.1 u.2.1 u.2.2 g146) ⟨hx, hb, hml, hown, hts⟩ (c_L_on l hfl dC dI cI b0 qh qs qr gh gs gr (8 : Int32) (g146 1 x10.toNatClampNeg) ((10 : Int32) + y150) (0 : Int32) _ hp _) (vx_cwSW 5 hts gL_law_L_on rfl rfl rfl (by decide +kernel) ⟨Nat.le_of_ble_eq_true rfl, Nat.le_of_ble_eq_true rfl⟩) hP hD hS hA hK hN hXS hXH (wLL_eq ..) (fun u => rfl) rfl rfl hl.1 (Nat.le_of_ble_eq_true rfl) ⟨by show 200 + 4 * k + 4 ≤ 673973; omega, by show 4000 + 24 * k + 24 ≤ 7079910; omega⟩ dL_law_844 (fun r151 u H locs hp hP hD hS => ?_)
    obtain ⟨gh152, gs153, gr154⟩ := u
    refine W.widen (k := 200 + 4 * (k + 1)) (n := 4000 + 24 * (k + 1)) (by omega) (by omega) ?_
    refine lv_iload hx hb dL_law_847 (lv_at hl 12 rfl) ?_
    refine lv_icmp_ne (tgt := 903) hx hb dL_law_849 (by decide) (fun c157 => ?_) (fun c157 => ?_)
    · have hp := hp.1 c157
      rw [eV903] at hp
      exact hp _ _ _ hP hD hS (lv_sub hl [2, 3, 4, 5, 6, 7, 8, 9, 10, 11, 12, 13, 14, 15, 16, 17, 1] rfl)
    · have hp := hp.2 c157
      refine lv_aload_n hx hb dL_law_852 rfl (lv_at hl 3 rfl) ?_
      refine lv_iload hx hb dL_law_853 (lv_at hl 12 rfl) ?_
      have hkb := hp.1
      have hp := hp.2
      obtain ⟨r155, hr155, hp⟩ := hp
      refine ro_V (As := [.int x10]) (rest := []) ⟨hx, hb, hml, hown, hts⟩ (cn_X4_tableOf l dC dI cI b0 qh qs qr gh152 gs153 gr154 x10 r155 hr155) (cwV 1 hts gL_law_X4_tableOf rfl rfl rfl (by decide +kernel) ⟨Nat.le_of_ble_eq_true rfl, Nat.le_of_ble_eq_true rfl⟩) (tLL hP) hK hN rfl rfl rfl rfl hl.1 (Nat.le_of_ble_eq_true rfl) ⟨by show 200 + 4 * (k + 1) ≤ 673973; omega, by show 4000 + 24 * (k + 1) ≤ 7079910; omega⟩ dL_law_855 ?_
      refine lv_if_lt (tgt := 865) hx hb dL_law_858 (by decide) (fun c156 => ?_) (fun c156 => ?_)
      · have hp := hp.1 c156
        refine lv_iconst (v := 0) hx hb dL_law_865 (by decide) ?_
        rw [eV866] at hp
        exact hp _ _ _ hP hD hS (lv_sub hl [2, 3, 4, 5, 6, 7, 8, 9, 10, 11, 12, 13, 14, 15, 16, 17, 1, 0] rfl)
      · have hp := hp.2 c156
        refine lv_iconst (v := 1) hx hb dL_law_861 (by decide) ?_
        refine lv_goto (tgt := 866) hx hb dL_law_862 (by decide) ?_
        rw [eV866] at hp
        exact hp _ _ _ hP hD hS (lv_sub hl [2, 3, 4, 5, 6, 7, 8, 9, 10, 11, 12, 13, 14, 15, 16, 17, 1, 0] rfl))
  have hp := hp (by
    intro k gh gs gr ga x9 x10 x11 x12 x14 x15 x17 x23 x24 t0 hp
    rw [eV866]
    intro H locs ls hP hD hS hl
    refine lv_iload hx hb dL_law_866 (lv_at hl 16 rfl) ?_
    refine lv_if_lt (tgt := 875) hx hb dL_law_868 (by decide) (fun c185 => ?_) (fun c185 => ?_)
    · have hp := hp.1 c185
      refine lv_iconst (v := 0) hx hb dL_law_875 (by decide) ?_
      rw [eV876] at hp
      exact hp _ _ _ hP hD hS (lv_sub hl [0, 1, 2, 3, 4, 5, 6, 7, 8, 9, 10, 11, 12, 13, 14, 15, 16, 17] rfl)
    · have hp := hp.2 c185
      refine lv_iconst (v := 1) hx hb dL_law_871 (by decide) ?_
      refine lv_goto (tgt := 876) hx hb dL_law_872 (by decide) ?_
      rw [eV876] at hp
      exact hp _ _ _ hP hD hS (lv_sub hl [0, 1, 2, 3, 4, 5, 6, 7, 8, 9, 10, 11, 12, 13, 14, 15, 16, 17] rfl))
  have hp := hp (by
    intro k gh gs gr ga x9 x10 x11 x12 x14 x15 x17 x23 x24 t0 t1 hp
    rw [eV876]
    intro H locs ls hP hD hS hl
    refine lv_icmp_ne (tgt := 903) hx hb dL_law_876 (by decide) (fun c229 => ?_) (fun c229 => ?_)
    · have hp := hp.1 c229
      rw [eV903] at hp
      exact hp _ _ _ hP hD hS (lv_sub hl [0, 1, 2, 3, 4, 5, 6, 7, 8, 9, 10, 11, 12, 13, 14, 15, 16] rfl)
    · have hp := hp.2 c229
      refine lv_aload_n hx hb dL_law_879 rfl (lv_at hl 1 rfl) ?_
      have hkb := hp.1
      have hp := hp.2
      obtain ⟨r227, hr227, hp⟩ := hp
      refine ro_V (As := []) (rest := []) ⟨hx, hb, hml, hown, hts⟩ (c_X4_waiting l dC dI cI b0 qh qs qr gh gs gr r227 hr227) (cwV 0 hts gL_law_X4_waiting rfl rfl rfl (by decide +kernel) ⟨Nat.le_of_ble_eq_true rfl, Nat.le_of_ble_eq_true rfl⟩) (tLL hP) hK hN rfl rfl rfl rfl hl.1 (Nat.le_of_ble_eq_true rfl) ⟨by show 200 + 4 * k ≤ 673973; omega, by show 4000 + 24 * k ≤ 7079910; omega⟩ dL_law_880 ?_
      refine lv_iload hx hb dL_law_883 (lv_at hl 17 rfl) ?_
      refine lv_iload hx hb dL_law_885 (lv_at hl 16 rfl) ?_
      refine lv_if_ge (tgt := 894) hx hb dL_law_887 (by decide) (fun c228 => ?_) (fun c228 => ?_)
      · have hp := hp.1 c228
        refine lv_iconst (v := 0) hx hb dL_law_894 (by decide) ?_
        rw [eV895] at hp
        exact hp _ _ _ hP hD hS (lv_sub hl [0, 1, 2, 3, 4, 5, 6, 7, 8, 9, 10, 11, 12, 13, 14, 15, 16] rfl)
      · have hp := hp.2 c228
        refine lv_iconst (v := 1) hx hb dL_law_890 (by decide) ?_
        refine lv_goto (tgt := 895) hx hb dL_law_891 (by decide) ?_
        rw [eV895] at hp
        exact hp _ _ _ hP hD hS (lv_sub hl [0, 1, 2, 3, 4, 5, 6, 7, 8, 9, 10, 11, 12, 13, 14, 15, 16] rfl))
  have hp := hp (by
    intro k gh gs gr ga x9 x10 x11 x12 x14 x15 x17 x23 t0 t1 t2 hp
    rw [eV895]
    intro H locs ls hP hD hS hl
    refine lv_iadd hx hb dL_law_895 ?_
    refine lv_icmp_ne (tgt := 903) hx hb dL_law_896 (by decide) (fun c258 => ?_) (fun c258 => ?_)
    · have hp := hp.1 c258
      rw [eV903] at hp
      exact hp _ _ _ hP hD hS (lv_sub hl [0, 1, 2, 3, 4, 5, 6, 7, 8, 9, 10, 11, 12, 13, 14, 15, 16] rfl)
    · have hp := hp.2 c258
      refine lv_iconst (v := 1) hx hb dL_law_899 (by decide) ?_
      refine lv_goto (tgt := 904) hx hb dL_law_900 (by decide) ?_
      rw [eV904] at hp
      exact hp _ _ _ hP hD hS (lv_sub hl [0, 1, 2, 3, 4, 5, 6, 7, 8, 9, 10, 11, 12, 13, 14, 15, 16] rfl))
  have hp := hp (by
    intro k gh gs gr ga x9 x10 x11 x12 x14 x15 x17 x23 hp
    rw [eV903]
    intro H locs ls hP hD hS hl
    refine lv_iconst (v := 0) hx hb dL_law_903 (by decide) ?_
    rw [eV904] at hp
    exact hp _ _ _ hP hD hS (lv_sub hl [0, 1, 2, 3, 4, 5, 6, 7, 8, 9, 10, 11, 12, 13, 14, 15, 16] rfl))
  have hp := hp (by
    intro k gh gs gr ga x9 x10 x11 x12 x14 x15 x17 x23 t0 hp
    rw [eV904]
    intro H locs ls hP hD hS hl
    refine lv_istore (lv' := [(13, .int t0), (0, .ref b), (1, .ref b0), (2, .ref (qa 0)), (3, .ref (qa 1)), (4, .ref (qa 2)), (5, .ref (qa 3)), (6, .ref (qa 4)), (7, .ref (qa 5)), (8, .ref (qa 6)), (9, .int x9), (10, .int x10), (11, .int x11), (12, .int x12), (14, .int x14), (15, .int x15), (17, .int x17), (23, .int x23)]) hx hb dL_law_904 hl (by decide) rfl (fun ls hl => ?_)
    refine lv_iconst (v := 1) hx hb dL_law_906 (by decide) ?_
    refine lv_aload_n hx hb dL_law_907 rfl (lv_at hl 2 rfl) ?_
    refine lv_iload hx hb dL_law_908 (lv_at hl 11 rfl) ?_
    have hkb := hp.1
    have hp := hp.2
    obtain ⟨r226, hr226, hp⟩ := hp
    refine ro_V (As := [.int x10]) (rest := [.int (1 : Int32)]) ⟨hx, hb, hml, hown, hts⟩ (cn_X4_tablesOf l dC dI cI b0 qh qs qr gh gs gr x10 r226 hr226) (cwV 1 hts gL_law_X4_tablesOf rfl rfl rfl (by decide +kernel) ⟨Nat.le_of_ble_eq_true rfl, Nat.le_of_ble_eq_true rfl⟩) (tLL hP) hK hN rfl rfl rfl rfl hl.1 (Nat.le_of_ble_eq_true rfl) ⟨by show 200 + 4 * k ≤ 673973; omega, by show 4000 + 24 * k ≤ 7079910; omega⟩ dL_law_910 ?_
    refine lv_isub hx hb dL_law_913 ?_
    refine lv_istore (lv' := [(25, .int ((1 : Int32) - r226)), (13, .int t0), (0, .ref b), (1, .ref b0), (2, .ref (qa 0)), (3, .ref (qa 1)), (4, .ref (qa 2)), (5, .ref (qa 3)), (6, .ref (qa 4)), (7, .ref (qa 5)), (8, .ref (qa 6)), (9, .int x9), (10, .int x10), (11, .int x11), (12, .int x12), (14, .int x14), (15, .int x15), (17, .int x17), (23, .int x23)]) hx hb dL_law_914 hl (by decide) rfl (fun ls hl => ?_)
    refine lv_iconst (v := 0) hx hb dL_law_916 (by decide) ?_
    refine lv_istore (lv' := [(26, .int (0 : Int32)), (25, .int ((1 : Int32) - r226)), (13, .int t0), (0, .ref b), (1, .ref b0), (2, .ref (qa 0)), (3, .ref (qa 1)), (4, .ref (qa 2)), (5, .ref (qa 3)), (6, .ref (qa 4)), (7, .ref (qa 5)), (8, .ref (qa 6)), (9, .int x9), (10, .int x10), (11, .int x11), (12, .int x12), (14, .int x14), (15, .int x15), (17, .int x17), (23, .int x23)]) hx hb dL_law_917 hl (by decide) rfl (fun ls hl => ?_)
    rw [eV919] at hp
    exact hp _ _ _ hP hD hS (lv_sub hl [3, 4, 5, 6, 7, 8, 9, 10, 11, 12, 13, 14, 15, 2, 16, 17, 18, 19, 1, 0] rfl))
  have hp := hp (by
    intro k gh gs gr ga x9 x10 x11 x12 x13 x14 x15 x17 x23 x25 x26 hp
    rw [eV919]
    intro H locs ls hP hD hS hl
    refine lv_iload hx hb dL_law_919 (lv_at hl 19 rfl) ?_
    refine lv_aload_n hx hb dL_law_921 rfl (lv_at hl 1 rfl) ?_
    refine lv_iload hx hb dL_law_922 (lv_at hl 10 rfl) ?_
    have hkb := hp.1
    have hp := hp.2
    obtain ⟨r252, hr252, hp⟩ := hp
    refine ro_V (As := [.int x10]) (rest := [.int x26]) ⟨hx, hb, hml, hown, hts⟩ (cn_X4_tablesOf l dC dI cI b0 qh qs qr gh gs gr x10 r252 hr252) (cwV 1 hts gL_law_X4_tablesOf rfl rfl rfl (by decide +kernel) ⟨Nat.le_of_ble_eq_true rfl, Nat.le_of_ble_eq_true rfl⟩) (tLL hP) hK hN rfl rfl rfl rfl hl.1 (Nat.le_of_ble_eq_true rfl) ⟨by show 200 + 4 * k ≤ 673973; omega, by show 4000 + 24 * k ≤ 7079910; omega⟩ dL_law_924 ?_
    refine lv_icmp_ge (tgt := 952) hx hb dL_law_927 (by decide) (fun c257 => ?_) (fun c257 => ?_)
    · have hp := hp.1 c257
      refine lv_iload hx hb dL_law_952 (lv_at hl 13 rfl) ?_
      refine lv_if_eq (tgt := 978) hx hb dL_law_954 (by decide) (fun c255 => ?_) (fun c255 => ?_)
      · have hp := hp.1 c255
        refine lv_iconst (v := 0) hx hb dL_law_978 (by decide) ?_
        refine lv_istore (lv' := [(13, .int (0 : Int32)), (0, .ref b), (1, .ref b0), (2, .ref (qa 0)), (3, .ref (qa 1)), (4, .ref (qa 2)), (5, .ref (qa 3)), (6, .ref (qa 4)), (7, .ref (qa 5)), (8, .ref (qa 6)), (9, .int x9), (10, .int x10), (11, .int x11), (12, .int x12), (14, .int x14), (15, .int x15), (17, .int x17), (23, .int x23), (25, .int x25), (26, .int x26)]) hx hb dL_law_979 hl (by decide) rfl (fun ls hl => ?_)
        refine lv_iinc (v := x10 + (1 : Int32)) (lv' := [(10, .int (x10 + (1 : Int32))), (13, .int (0 : Int32)), (0, .ref b), (1, .ref b0), (2, .ref (qa 0)), (3, .ref (qa 1)), (4, .ref (qa 2)), (5, .ref (qa 3)), (6, .ref (qa 4)), (7, .ref (qa 5)), (8, .ref (qa 6)), (9, .int x9), (11, .int x11), (12, .int x12), (14, .int x14), (15, .int x15), (17, .int x17), (23, .int x23), (25, .int x25), (26, .int x26)]) hx hb dL_law_981 hl (k := 11) rfl rfl (by decide) rfl (fun ls hl => ?_)
        refine lv_goto (tgt := 1770) hx hb dL_law_984 (by decide) ?_
        rw [eV1770] at hp
        exact hp _ _ _ hP hD hS (lv_sub hl [2, 3, 4, 5, 6, 7, 8, 9, 10, 11, 0, 12, 13, 1, 14, 15, 16] rfl)
      · have hp := hp.2 c255
        refine lv_iload hx hb dL_law_957 (lv_at hl 17 rfl) ?_
        refine lv_if_lt (tgt := 974) hx hb dL_law_959 (by decide) (fun c254 => ?_) (fun c254 => ?_)
        · have hp := hp.1 c254
          refine lv_iconst (v := 1) hx hb dL_law_974 (by decide) ?_
          refine lv_goto (tgt := 979) hx hb dL_law_975 (by decide) ?_
          refine lv_istore (lv' := [(13, .int (1 : Int32)), (0, .ref b), (1, .ref b0), (2, .ref (qa 0)), (3, .ref (qa 1)), (4, .ref (qa 2)), (5, .ref (qa 3)), (6, .ref (qa 4)), (7, .ref (qa 5)), (8, .ref (qa 6)), (9, .int x9), (10, .int x10), (11, .int x11), (12, .int x12), (14, .int x14), (15, .int x15), (17, .int x17), (23, .int x23), (25, .int x25), (26, .int x26)]) hx hb dL_law_979 hl (by decide) rfl (fun ls hl => ?_)
          refine lv_iinc (v := x10 + (1 : Int32)) (lv' := [(10, .int (x10 + (1 : Int32))), (13, .int (1 : Int32)), (0, .ref b), (1, .ref b0), (2, .ref (qa 0)), (3, .ref (qa 1)), (4, .ref (qa 2)), (5, .ref (qa 3)), (6, .ref (qa 4)), (7, .ref (qa 5)), (8, .ref (qa 6)), (9, .int x9), (11, .int x11), (12, .int x12), (14, .int x14), (15, .int x15), (17, .int x17), (23, .int x23), (25, .int x25), (26, .int x26)]) hx hb dL_law_981 hl (k := 11) rfl rfl (by decide) rfl (fun ls hl => ?_)
          refine lv_goto (tgt := 1770) hx hb dL_law_984 (by decide) ?_
          rw [eV1770] at hp
          exact hp _ _ _ hP hD hS (lv_sub hl [2, 3, 4, 5, 6, 7, 8, 9, 10, 11, 0, 12, 13, 1, 14, 15, 16] rfl)
        · have hp := hp.2 c254
          refine lv_iload hx hb dL_law_962 (lv_at hl 18 rfl) ?_
          refine lv_aload_n hx hb dL_law_964 rfl (lv_at hl 3 rfl) ?_
          refine lv_iload hx hb dL_law_965 (lv_at hl 10 rfl) ?_
          refine va_iald hx hb hK hP 45 0 rfl rfl hp.1 dL_law_967 ?_
          have hp := hp.2
          refine lv_iload hx hb dL_law_968 (lv_at hl 17 rfl) ?_
          refine lv_iadd hx hb dL_law_970 ?_
          refine lv_icmp_ne (tgt := 978) hx hb dL_law_971 (by decide) (fun c253 => ?_) (fun c253 => ?_)
          · have hp := hp.1 c253
            refine lv_iconst (v := 0) hx hb dL_law_978 (by decide) ?_
            refine lv_istore (lv' := [(13, .int (0 : Int32)), (0, .ref b), (1, .ref b0), (2, .ref (qa 0)), (3, .ref (qa 1)), (4, .ref (qa 2)), (5, .ref (qa 3)), (6, .ref (qa 4)), (7, .ref (qa 5)), (8, .ref (qa 6)), (9, .int x9), (10, .int x10), (11, .int x11), (12, .int x12), (14, .int x14), (15, .int x15), (17, .int x17), (23, .int x23), (25, .int x25), (26, .int x26)]) hx hb dL_law_979 hl (by decide) rfl (fun ls hl => ?_)
            refine lv_iinc (v := x10 + (1 : Int32)) (lv' := [(10, .int (x10 + (1 : Int32))), (13, .int (0 : Int32)), (0, .ref b), (1, .ref b0), (2, .ref (qa 0)), (3, .ref (qa 1)), (4, .ref (qa 2)), (5, .ref (qa 3)), (6, .ref (qa 4)), (7, .ref (qa 5)), (8, .ref (qa 6)), (9, .int x9), (11, .int x11), (12, .int x12), (14, .int x14), (15, .int x15), (17, .int x17), (23, .int x23), (25, .int x25), (26, .int x26)]) hx hb dL_law_981 hl (k := 11) rfl rfl (by decide) rfl (fun ls hl => ?_)
            refine lv_goto (tgt := 1770) hx hb dL_law_984 (by decide) ?_
            rw [eV1770] at hp
            exact hp _ _ _ hP hD hS (lv_sub hl [2, 3, 4, 5, 6, 7, 8, 9, 10, 11, 0, 12, 13, 1, 14, 15, 16] rfl)
          · have hp := hp.2 c253
            refine lv_iconst (v := 1) hx hb dL_law_974 (by decide) ?_
            refine lv_goto (tgt := 979) hx hb dL_law_975 (by decide) ?_
            refine lv_istore (lv' := [(13, .int (1 : Int32)), (0, .ref b), (1, .ref b0), (2, .ref (qa 0)), (3, .ref (qa 1)), (4, .ref (qa 2)), (5, .ref (qa 3)), (6, .ref (qa 4)), (7, .ref (qa 5)), (8, .ref (qa 6)), (9, .int x9), (10, .int x10), (11, .int x11), (12, .int x12), (14, .int x14), (15, .int x15), (17, .int x17), (23, .int x23), (25, .int x25), (26, .int x26)]) hx hb dL_law_979 hl (by decide) rfl (fun ls hl => ?_)
            refine lv_iinc (v := x10 + (1 : Int32)) (lv' := [(10, .int (x10 + (1 : Int32))), (13, .int (1 : Int32)), (0, .ref b), (1, .ref b0), (2, .ref (qa 0)), (3, .ref (qa 1)), (4, .ref (qa 2)), (5, .ref (qa 3)), (6, .ref (qa 4)), (7, .ref (qa 5)), (8, .ref (qa 6)), (9, .int x9), (11, .int x11), (12, .int x12), (14, .int x14), (15, .int x15), (17, .int x17), (23, .int x23), (25, .int x25), (26, .int x26)]) hx hb dL_law_981 hl (k := 11) rfl rfl (by decide) rfl (fun ls hl => ?_)
            refine lv_goto (tgt := 1770) hx hb dL_law_984 (by decide) ?_
            rw [eV1770] at hp
            exact hp _ _ _ hP hD hS (lv_sub hl [2, 3, 4, 5, 6, 7, 8, 9, 10, 11, 0, 12, 13, 1, 14, 15, 16] rfl)
    · have hp := hp.2 c257
      refine lv_iload hx hb dL_law_930 (lv_at hl 18 rfl) ?_
      refine lv_aload_n hx hb dL_law_932 rfl (lv_at hl 2 rfl) ?_
      refine lv_aload_n hx hb dL_law_933 rfl (lv_at hl 1 rfl) ?_
      refine lv_iload hx hb dL_law_934 (lv_at hl 10 rfl) ?_
      have hkb := hp.1
      have hp := hp.2
      obtain ⟨r256, hr256, hp⟩ := hp
      refine ro_V (As := [.int x10]) (rest := [.ref (qa 0), .int x25]) ⟨hx, hb, hml, hown, hts⟩ (cn_X4_tableOf l dC dI cI b0 qh qs qr gh gs gr x10 r256 hr256) (cwV 1 hts gL_law_X4_tableOf rfl rfl rfl (by decide +kernel) ⟨Nat.le_of_ble_eq_true rfl, Nat.le_of_ble_eq_true rfl⟩) (tLL hP) hK hN rfl rfl rfl rfl hl.1 (Nat.le_of_ble_eq_true rfl) ⟨by show 200 + 4 * k ≤ 673973; omega, by show 4000 + 24 * k ≤ 7079910; omega⟩ dL_law_936 ?_
      refine lv_iload hx hb dL_law_939 (lv_at hl 19 rfl) ?_
      refine lv_iadd hx hb dL_law_941 ?_
      refine va_iald hx hb hK hP 44 0 rfl rfl hp.1 dL_law_942 ?_
      have hp := hp.2
      refine lv_iadd hx hb dL_law_943 ?_
      refine lv_istore (lv' := [(25, .int (x25 + (ga 0 (r256 + x26).toNatClampNeg))), (0, .ref b), (1, .ref b0), (2, .ref (qa 0)), (3, .ref (qa 1)), (4, .ref (qa 2)), (5, .ref (qa 3)), (6, .ref (qa 4)), (7, .ref (qa 5)), (8, .ref (qa 6)), (9, .int x9), (10, .int x10), (11, .int x11), (12, .int x12), (13, .int x13), (14, .int x14), (15, .int x15), (17, .int x17), (23, .int x23), (26, .int x26)]) hx hb dL_law_944 hl (by decide) rfl (fun ls hl => ?_)
      refine lv_iinc (v := x26 + (1 : Int32)) (lv' := [(26, .int (x26 + (1 : Int32))), (25, .int (x25 + (ga 0 (r256 + x26).toNatClampNeg))), (0, .ref b), (1, .ref b0), (2, .ref (qa 0)), (3, .ref (qa 1)), (4, .ref (qa 2)), (5, .ref (qa 3)), (6, .ref (qa 4)), (7, .ref (qa 5)), (8, .ref (qa 6)), (9, .int x9), (10, .int x10), (11, .int x11), (12, .int x12), (13, .int x13), (14, .int x14), (15, .int x15), (17, .int x17), (23, .int x23)]) hx hb dL_law_946 hl (k := 19) rfl rfl (by decide) rfl (fun ls hl => ?_)
      refine lv_goto (tgt := 919) hx hb dL_law_949 (by decide) ?_
      rw [eV919] at hp
      exact hp _ _ _ hP hD hS (lv_sub hl [2, 3, 4, 5, 6, 7, 8, 9, 10, 11, 12, 13, 14, 15, 16, 17, 18, 19, 1, 0] rfl))
  have hp := hp (by
    intro k gh gs gr ga x9 x10 x11 x12 x13 x14 x15 x17 x18 x19 x20 x21 x22 hp
    rw [eV987]
    intro H locs ls hP hD hS hl
    refine lv_iload hx hb dL_law_987 (lv_at hl 17 rfl) ?_
    refine lv_bipush (v := 6) hx hb dL_law_989 (by decide) ?_
    refine lv_icmp_ne (tgt := 1108) hx hb dL_law_991 (by decide) (fun c144 => ?_) (fun c144 => ?_)
    · have hp := hp.1 c144
      rw [eV1108] at hp
      exact hp _ _ _ hP hD hS (lv_sub hl [0, 1, 2, 3, 4, 5, 6, 7, 8, 9, 10, 11, 12, 13, 14, 15, 16, 17, 18, 19, 20, 21] rfl)
    · have hp := hp.2 c144
      refine lv_iload hx hb dL_law_994 (lv_at hl 16 rfl) ?_
      refine lv_iconst (v := 3) hx hb dL_law_996 (by decide) ?_
      refine lv_iand hx hb dL_law_997 ?_
      refine lv_topi (fun y137 ey137 => ?_)
      have hp := hp y137 ey137
      refine lv_if_ne (tgt := 1108) hx hb dL_law_998 (by decide) (fun c143 => ?_) (fun c143 => ?_)
      · have hp := hp.1 c143
        rw [eV1108] at hp
        exact hp _ _ _ hP hD hS (lv_sub hl [0, 1, 2, 3, 4, 5, 6, 7, 8, 9, 10, 11, 12, 13, 14, 15, 16, 17, 18, 19, 20, 21] rfl)
      · have hp := hp.2 c143
        refine lv_iload hx hb dL_law_1001 (lv_at hl 10 rfl) ?_
        refine lv_if_ne (tgt := 1011) hx hb dL_law_1003 (by decide) (fun c142 => ?_) (fun c142 => ?_)
        · have hp := hp.1 c142
          refine lv_aload_n hx hb dL_law_1011 rfl (lv_at hl 1 rfl) ?_
          refine lv_iconst (v := 1) hx hb dL_law_1012 (by decide) ?_
          refine lv_iload hx hb dL_law_1013 (lv_at hl 18 rfl) ?_
          refine lv_iconst (v := 0) hx hb dL_law_1015 (by decide) ?_
          refine lv_iconst (v := 0) hx hb dL_law_1016 (by decide) ?_
          have hkb := hp.1
          have hp := hp.2
          refine pw_SW (As := [.ref b0, .int (1 : Int32), .int x19, .int (0 : Int32), .int (0 : Int32)]) (rest := []) (w1 := []) (w2 := wA qa cI ga) (wsd := fun u : St × St × St => wLL b0 qh qs qr qa cI u.1 u.2.1 u.2.2 ga) ⟨hx, hb, hml, hown, hts⟩ (c_L_on l hfl dC dI cI b0 qh qs qr gh gs gr (1 : Int32) x19 (0 : Int32) (0 : Int32) _ hp _) (vx_cwSW 5 hts gL_law_L_on rfl rfl rfl (by decide +kernel) ⟨Nat.le_of_ble_eq_true rfl, Nat.le_of_ble_eq_true rfl⟩) hP hD hS hA hK hN hXS hXH (wLL_eq ..) (fun u => rfl) rfl rfl hl.1 (Nat.le_of_ble_eq_true rfl) ⟨by show 200 + 4 * k + 4 ≤ 673973; omega, by show 4000 + 24 * k + 24 ≤ 7079910; omega⟩ dL_law_1017 (fun r138 u H locs hp hP hD hS => ?_)
          obtain ⟨gh139, gs140, gr141⟩ := u
          refine W.widen (k := 200 + 4 * (k + 1)) (n := 4000 + 24 * (k + 1)) (by omega) (by omega) ?_
          rw [eV1020] at hp
          exact hp _ _ _ hP hD hS (lv_sub hl [0, 1, 2, 3, 4, 5, 6, 7, 8, 9, 10, 11, 12, 14, 15, 16, 18] rfl)
        · have hp := hp.2 c142
          refine lv_bipush (v := -13) hx hb dL_law_1006 (by decide) ?_
          refine lv_goto (tgt := 1020) hx hb dL_law_1008 (by decide) ?_
          rw [eV1020] at hp
          exact hp _ _ _ hP hD hS (lv_sub hl [0, 1, 2, 3, 4, 5, 6, 7, 8, 9, 10, 11, 12, 14, 15, 16, 18] rfl))
  have hp := hp (by
    intro k gh gs gr ga x9 x10 x11 x12 x14 x15 x17 x19 t0 hp
    rw [eV1020]
    intro H locs ls hP hD hS hl
    refine lv_istore (lv' := [(23, .int t0), (0, .ref b), (1, .ref b0), (2, .ref (qa 0)), (3, .ref (qa 1)), (4, .ref (qa 2)), (5, .ref (qa 3)), (6, .ref (qa 4)), (7, .ref (qa 5)), (8, .ref (qa 6)), (9, .int x9), (10, .int x10), (11, .int x11), (12, .int x12), (14, .int x14), (15, .int x15), (17, .int x17), (19, .int x19)]) hx hb dL_law_1020 hl (by decide) rfl (fun ls hl => ?_)
    refine lv_iconst (v := 1) hx hb dL_law_1022 (by decide) ?_
    refine lv_iload hx hb dL_law_1023 (lv_at hl 16 rfl) ?_
    refine lv_iconst (v := 2) hx hb dL_law_1025 (by decide) ?_
    refine lv_ishr hx hb dL_law_1026 ?_
    refine lv_topi (fun y167 ey167 => ?_)
    have hp := hp y167 ey167
    refine lv_bipush (v := 30) hx hb dL_law_1027 (by decide) ?_
    refine lv_irem hx hb dL_law_1029 hp.1 ?_
    have hp := hp.2
    refine lv_topi (fun y168 ey168 => ?_)
    have hp := hp y168 ey168
    refine lv_iadd hx hb dL_law_1030 ?_
    refine lv_istore (lv' := [(24, .int ((1 : Int32) + y168)), (23, .int t0), (0, .ref b), (1, .ref b0), (2, .ref (qa 0)), (3, .ref (qa 1)), (4, .ref (qa 2)), (5, .ref (qa 3)), (6, .ref (qa 4)), (7, .ref (qa 5)), (8, .ref (qa 6)), (9, .int x9), (10, .int x10), (11, .int x11), (12, .int x12), (14, .int x14), (15, .int x15), (17, .int x17), (19, .int x19)]) hx hb dL_law_1031 hl (by decide) rfl (fun ls hl => ?_)
    refine lv_aload_n hx hb dL_law_1033 rfl (lv_at hl 3 rfl) ?_
    have hkb := hp.1
    have hp := hp.2
    obtain ⟨r169, hr169, hp⟩ := hp
    refine ro_V (As := []) (rest := []) ⟨hx, hb, hml, hown, hts⟩ (c_X4_now l dC dI cI b0 qh qs qr gh gs gr r169 hr169) (cwV 0 hts gL_law_X4_now rfl rfl rfl (by decide +kernel) ⟨Nat.le_of_ble_eq_true rfl, Nat.le_of_ble_eq_true rfl⟩) (tLL hP) hK hN rfl rfl rfl rfl hl.1 (Nat.le_of_ble_eq_true rfl) ⟨by show 200 + 4 * k ≤ 673973; omega, by show 4000 + 24 * k ≤ 7079910; omega⟩ dL_law_1034 ?_
    refine lv_istore (lv' := [(25, .int r169), (24, .int ((1 : Int32) + y168)), (23, .int t0), (0, .ref b), (1, .ref b0), (2, .ref (qa 0)), (3, .ref (qa 1)), (4, .ref (qa 2)), (5, .ref (qa 3)), (6, .ref (qa 4)), (7, .ref (qa 5)), (8, .ref (qa 6)), (9, .int x9), (10, .int x10), (11, .int x11), (12, .int x12), (14, .int x14), (15, .int x15), (17, .int x17), (19, .int x19)]) hx hb dL_law_1037 hl (by decide) rfl (fun ls hl => ?_)
    refine lv_aload_n hx hb dL_law_1039 rfl (lv_at hl 4 rfl) ?_
    refine lv_iload hx hb dL_law_1040 (lv_at hl 1 rfl) ?_
    have hkb := hp.1
    have hp := hp.2
    refine pw_V (As := [.int ((1 : Int32) + y168)]) (rest := []) (w1 := []) (w2 := wA qa cI ga) (wsd := fun u : St × St × St => wLL b0 qh qs qr qa cI u.1 u.2.1 u.2.2 ga) ⟨hx, hb, hml, hown, hts⟩ (cn_X4_pass l dC dI cI b0 qh qs qr gh gs gr ((1 : Int32) + y168) _ hp _) (cwV 1 hts gL_law_X4_pass rfl rfl rfl (by decide +kernel) ⟨Nat.le_of_ble_eq_true rfl, Nat.le_of_ble_eq_true rfl⟩) hP hD hS hA hK hN (wLL_eq ..) (fun u => rfl) rfl rfl rfl rfl hl.1 (Nat.le_of_ble_eq_true rfl) ⟨by show 200 + 4 * k + 0 ≤ 673973; omega, by show 4000 + 24 * k + 0 ≤ 7079910; omega⟩ dL_law_1042 (fun r170 u H locs hp hP hD hS => ?_)
    obtain ⟨gh171, gs172, gr173⟩ := u
    refine lv_iload hx hb dL_law_1045 (lv_at hl 0 rfl) ?_
    refine lv_iload hx hb dL_law_1047 (lv_at hl 1 rfl) ?_
    refine lv_iadd hx hb dL_law_1049 ?_
    refine lv_icmp_ne (tgt := 1102) hx hb dL_law_1050 (by decide) (fun c184 => ?_) (fun c184 => ?_)
    · have hp := hp.1 c184
      refine lv_iconst (v := 0) hx hb dL_law_1102 (by decide) ?_
      refine lv_istore (lv' := [(13, .int (0 : Int32)), (25, .int r169), (24, .int ((1 : Int32) + y168)), (23, .int t0), (0, .ref b), (1, .ref b0), (2, .ref (qa 0)), (3, .ref (qa 1)), (4, .ref (qa 2)), (5, .ref (qa 3)), (6, .ref (qa 4)), (7, .ref (qa 5)), (8, .ref (qa 6)), (9, .int x9), (10, .int x10), (11, .int x11), (12, .int x12), (14, .int x14), (15, .int x15), (17, .int x17), (19, .int x19)]) hx hb dL_law_1103 hl (by decide) rfl (fun ls hl => ?_)
      refine lv_goto (tgt := 1770) hx hb dL_law_1105 (by decide) ?_
      rw [eV1770] at hp
      exact hp _ _ _ hP hD hS (lv_sub hl [4, 5, 6, 7, 8, 9, 10, 11, 12, 13, 14, 15, 16, 0, 17, 18, 19] rfl)
    · have hp := hp.2 c184
      refine lv_iload hx hb dL_law_1053 (lv_at hl 13 rfl) ?_
      refine lv_if_eq (tgt := 1098) hx hb dL_law_1055 (by decide) (fun c183 => ?_) (fun c183 => ?_)
      · have hp := hp.1 c183
        refine lv_iconst (v := 1) hx hb dL_law_1098 (by decide) ?_
        refine lv_goto (tgt := 1103) hx hb dL_law_1099 (by decide) ?_
        refine lv_istore (lv' := [(13, .int (1 : Int32)), (25, .int r169), (24, .int ((1 : Int32) + y168)), (23, .int t0), (0, .ref b), (1, .ref b0), (2, .ref (qa 0)), (3, .ref (qa 1)), (4, .ref (qa 2)), (5, .ref (qa 3)), (6, .ref (qa 4)), (7, .ref (qa 5)), (8, .ref (qa 6)), (9, .int x9), (10, .int x10), (11, .int x11), (12, .int x12), (14, .int x14), (15, .int x15), (17, .int x17), (19, .int x19)]) hx hb dL_law_1103 hl (by decide) rfl (fun ls hl => ?_)
        refine lv_goto (tgt := 1770) hx hb dL_law_1105 (by decide) ?_
        rw [eV1770] at hp
        exact hp _ _ _ hP hD hS (lv_sub hl [4, 5, 6, 7, 8, 9, 10, 11, 12, 13, 14, 15, 16, 0, 17, 18, 19] rfl)
      · have hp := hp.2 c183
        refine lv_aload_n hx hb dL_law_1058 rfl (lv_at hl 4 rfl) ?_
        refine lv_iconst (v := 1) hx hb dL_law_1059 (by decide) ?_
        refine lv_iload hx hb dL_law_1060 (lv_at hl 19 rfl) ?_
        refine lv_iconst (v := 0) hx hb dL_law_1062 (by decide) ?_
        refine lv_iconst (v := 0) hx hb dL_law_1063 (by decide) ?_
        have hkb := hp.1
        have hp := hp.2
        refine pw_SW (As := [.ref b0, .int (1 : Int32), .int x19, .int (0 : Int32), .int (0 : Int32)]) (rest := []) (w1 := []) (w2 := wA qa cI ga) (wsd := fun u : St × St × St => wLL b0 qh qs qr qa cI u.1 u.2.1 u.2.2 ga) ⟨hx, hb, hml, hown, hts⟩ (c_L_on l hfl dC dI cI b0 qh qs qr gh171 gs172 gr173 (1 : Int32) x19 (0 : Int32) (0 : Int32) _ hp _) (vx_cwSW 5 hts gL_law_L_on rfl rfl rfl (by decide +kernel) ⟨Nat.le_of_ble_eq_true rfl, Nat.le_of_ble_eq_true rfl⟩) hP hD hS hA hK hN hXS hXH (wLL_eq ..) (fun u => rfl) rfl rfl hl.1 (Nat.le_of_ble_eq_true rfl) ⟨by show 200 + 4 * k + 4 ≤ 673973; omega, by show 4000 + 24 * k + 24 ≤ 7079910; omega⟩ dL_law_1064 (fun r174 u H locs hp hP hD hS => ?_)
        obtain ⟨gh175, gs176, gr177⟩ := u
        refine W.widen (k := 200 + 4 * (k + 1)) (n := 4000 + 24 * (k + 1)) (by omega) (by omega) ?_
        refine lv_iload hx hb dL_law_1067 (lv_at hl 2 rfl) ?_
        refine lv_bipush (v := -13) hx hb dL_law_1069 (by decide) ?_
        refine lv_icmp_ne (tgt := 1079) hx hb dL_law_1071 (by decide) (fun c182 => ?_) (fun c182 => ?_)
        · have hp := hp.1 c182
          refine lv_iload hx hb dL_law_1079 (lv_at hl 2 rfl) ?_
          refine lv_iload hx hb dL_law_1081 (lv_at hl 1 rfl) ?_
          refine lv_icmp_le (tgt := 1094) hx hb dL_law_1083 (by decide) (fun c180 => ?_) (fun c180 => ?_)
          · have hp := hp.1 c180
            refine lv_iconst (v := 0) hx hb dL_law_1094 (by decide) ?_
            refine lv_icmp_ne (tgt := 1102) hx hb dL_law_1095 (by decide) (fun c178 => ?_) (fun c178 => ?_)
            · have hp := hp.1 c178
              refine lv_iconst (v := 0) hx hb dL_law_1102 (by decide) ?_
              refine lv_istore (lv' := [(13, .int (0 : Int32)), (25, .int r169), (24, .int ((1 : Int32) + y168)), (23, .int t0), (0, .ref b), (1, .ref b0), (2, .ref (qa 0)), (3, .ref (qa 1)), (4, .ref (qa 2)), (5, .ref (qa 3)), (6, .ref (qa 4)), (7, .ref (qa 5)), (8, .ref (qa 6)), (9, .int x9), (10, .int x10), (11, .int x11), (12, .int x12), (14, .int x14), (15, .int x15), (17, .int x17), (19, .int x19)]) hx hb dL_law_1103 hl (by decide) rfl (fun ls hl => ?_)
              refine lv_goto (tgt := 1770) hx hb dL_law_1105 (by decide) ?_
              rw [eV1770] at hp
              exact hp _ _ _ hP hD hS (lv_sub hl [4, 5, 6, 7, 8, 9, 10, 11, 12, 13, 14, 15, 16, 0, 17, 18, 19] rfl)
            · have hp := hp.2 c178
              refine lv_iconst (v := 1) hx hb dL_law_1098 (by decide) ?_
              refine lv_goto (tgt := 1103) hx hb dL_law_1099 (by decide) ?_
              refine lv_istore (lv' := [(13, .int (1 : Int32)), (25, .int r169), (24, .int ((1 : Int32) + y168)), (23, .int t0), (0, .ref b), (1, .ref b0), (2, .ref (qa 0)), (3, .ref (qa 1)), (4, .ref (qa 2)), (5, .ref (qa 3)), (6, .ref (qa 4)), (7, .ref (qa 5)), (8, .ref (qa 6)), (9, .int x9), (10, .int x10), (11, .int x11), (12, .int x12), (14, .int x14), (15, .int x15), (17, .int x17), (19, .int x19)]) hx hb dL_law_1103 hl (by decide) rfl (fun ls hl => ?_)
              refine lv_goto (tgt := 1770) hx hb dL_law_1105 (by decide) ?_
              rw [eV1770] at hp
              exact hp _ _ _ hP hD hS (lv_sub hl [4, 5, 6, 7, 8, 9, 10, 11, 12, 13, 14, 15, 16, 0, 17, 18, 19] rfl)
          · have hp := hp.2 c180
            refine lv_iload hx hb dL_law_1086 (lv_at hl 2 rfl) ?_
            refine lv_iload hx hb dL_law_1088 (lv_at hl 1 rfl) ?_
            refine lv_isub hx hb dL_law_1090 ?_
            refine lv_goto (tgt := 1095) hx hb dL_law_1091 (by decide) ?_
            refine lv_icmp_ne (tgt := 1102) hx hb dL_law_1095 (by decide) (fun c179 => ?_) (fun c179 => ?_)
            · have hp := hp.1 c179
              refine lv_iconst (v := 0) hx hb dL_law_1102 (by decide) ?_
              refine lv_istore (lv' := [(13, .int (0 : Int32)), (25, .int r169), (24, .int ((1 : Int32) + y168)), (23, .int t0), (0, .ref b), (1, .ref b0), (2, .ref (qa 0)), (3, .ref (qa 1)), (4, .ref (qa 2)), (5, .ref (qa 3)), (6, .ref (qa 4)), (7, .ref (qa 5)), (8, .ref (qa 6)), (9, .int x9), (10, .int x10), (11, .int x11), (12, .int x12), (14, .int x14), (15, .int x15), (17, .int x17), (19, .int x19)]) hx hb dL_law_1103 hl (by decide) rfl (fun ls hl => ?_)
              refine lv_goto (tgt := 1770) hx hb dL_law_1105 (by decide) ?_
              rw [eV1770] at hp
              exact hp _ _ _ hP hD hS (lv_sub hl [4, 5, 6, 7, 8, 9, 10, 11, 12, 13, 14, 15, 16, 0, 17, 18, 19] rfl)
            · have hp := hp.2 c179
              refine lv_iconst (v := 1) hx hb dL_law_1098 (by decide) ?_
              refine lv_goto (tgt := 1103) hx hb dL_law_1099 (by decide) ?_
              refine lv_istore (lv' := [(13, .int (1 : Int32)), (25, .int r169), (24, .int ((1 : Int32) + y168)), (23, .int t0), (0, .ref b), (1, .ref b0), (2, .ref (qa 0)), (3, .ref (qa 1)), (4, .ref (qa 2)), (5, .ref (qa 3)), (6, .ref (qa 4)), (7, .ref (qa 5)), (8, .ref (qa 6)), (9, .int x9), (10, .int x10), (11, .int x11), (12, .int x12), (14, .int x14), (15, .int x15), (17, .int x17), (19, .int x19)]) hx hb dL_law_1103 hl (by decide) rfl (fun ls hl => ?_)
              refine lv_goto (tgt := 1770) hx hb dL_law_1105 (by decide) ?_
              rw [eV1770] at hp
              exact hp _ _ _ hP hD hS (lv_sub hl [4, 5, 6, 7, 8, 9, 10, 11, 12, 13, 14, 15, 16, 0, 17, 18, 19] rfl)
        · have hp := hp.2 c182
          refine lv_bipush (v := -13) hx hb dL_law_1074 (by decide) ?_
          refine lv_goto (tgt := 1095) hx hb dL_law_1076 (by decide) ?_
          refine lv_icmp_ne (tgt := 1102) hx hb dL_law_1095 (by decide) (fun c181 => ?_) (fun c181 => ?_)
          · have hp := hp.1 c181
            refine lv_iconst (v := 0) hx hb dL_law_1102 (by decide) ?_
            refine lv_istore (lv' := [(13, .int (0 : Int32)), (25, .int r169), (24, .int ((1 : Int32) + y168)), (23, .int t0), (0, .ref b), (1, .ref b0), (2, .ref (qa 0)), (3, .ref (qa 1)), (4, .ref (qa 2)), (5, .ref (qa 3)), (6, .ref (qa 4)), (7, .ref (qa 5)), (8, .ref (qa 6)), (9, .int x9), (10, .int x10), (11, .int x11), (12, .int x12), (14, .int x14), (15, .int x15), (17, .int x17), (19, .int x19)]) hx hb dL_law_1103 hl (by decide) rfl (fun ls hl => ?_)
            refine lv_goto (tgt := 1770) hx hb dL_law_1105 (by decide) ?_
            rw [eV1770] at hp
            exact hp _ _ _ hP hD hS (lv_sub hl [4, 5, 6, 7, 8, 9, 10, 11, 12, 13, 14, 15, 16, 0, 17, 18, 19] rfl)
          · have hp := hp.2 c181
            refine lv_iconst (v := 1) hx hb dL_law_1098 (by decide) ?_
            refine lv_goto (tgt := 1103) hx hb dL_law_1099 (by decide) ?_
            refine lv_istore (lv' := [(13, .int (1 : Int32)), (25, .int r169), (24, .int ((1 : Int32) + y168)), (23, .int t0), (0, .ref b), (1, .ref b0), (2, .ref (qa 0)), (3, .ref (qa 1)), (4, .ref (qa 2)), (5, .ref (qa 3)), (6, .ref (qa 4)), (7, .ref (qa 5)), (8, .ref (qa 6)), (9, .int x9), (10, .int x10), (11, .int x11), (12, .int x12), (14, .int x14), (15, .int x15), (17, .int x17), (19, .int x19)]) hx hb dL_law_1103 hl (by decide) rfl (fun ls hl => ?_)
            refine lv_goto (tgt := 1770) hx hb dL_law_1105 (by decide) ?_
            rw [eV1770] at hp
            exact hp _ _ _ hP hD hS (lv_sub hl [4, 5, 6, 7, 8, 9, 10, 11, 12, 13, 14, 15, 16, 0, 17, 18, 19] rfl))
  have hp := hp (by
    intro k gh gs gr ga x9 x10 x11 x12 x13 x14 x15 x17 x18 x19 x20 x21 x22 hp
    rw [eV1108]
    intro H locs ls hP hD hS hl
    refine lv_iload hx hb dL_law_1108 (lv_at hl 17 rfl) ?_
    refine lv_bipush (v := 8) hx hb dL_law_1110 (by decide) ?_
    refine lv_icmp_ge (tgt := 1290) hx hb dL_law_1112 (by decide) (fun c166 => ?_) (fun c166 => ?_)
    · have hp := hp.1 c166
      rw [eV1290] at hp
      exact hp _ _ _ hP hD hS (lv_sub hl [0, 1, 2, 3, 4, 5, 6, 7, 8, 9, 10, 11, 12, 13, 14, 15, 16, 17, 18, 19, 20, 21] rfl)
    · have hp := hp.2 c166
      refine lv_iload hx hb dL_law_1115 (lv_at hl 10 rfl) ?_
      refine lv_if_le (tgt := 1290) hx hb dL_law_1117 (by decide) (fun c165 => ?_) (fun c165 => ?_)
      · have hp := hp.1 c165
        rw [eV1290] at hp
        exact hp _ _ _ hP hD hS (lv_sub hl [0, 1, 2, 3, 4, 5, 6, 7, 8, 9, 10, 11, 12, 13, 14, 15, 16, 17, 18, 19, 20, 21] rfl)
      · have hp := hp.2 c165
        refine lv_aload_n hx hb dL_law_1120 rfl (lv_at hl 1 rfl) ?_
        have hkb := hp.1
        have hp := hp.2
        obtain ⟨r161, hr161, hp⟩ := hp
        refine ro_V (As := []) (rest := []) ⟨hx, hb, hml, hown, hts⟩ (c_X4_waiting l dC dI cI b0 qh qs qr gh gs gr r161 hr161) (cwV 0 hts gL_law_X4_waiting rfl rfl rfl (by decide +kernel) ⟨Nat.le_of_ble_eq_true rfl, Nat.le_of_ble_eq_true rfl⟩) (tLL hP) hK hN rfl rfl rfl rfl hl.1 (Nat.le_of_ble_eq_true rfl) ⟨by show 200 + 4 * k ≤ 673973; omega, by show 4000 + 24 * k ≤ 7079910; omega⟩ dL_law_1121 ?_
        refine lv_istore (lv' := [(23, .int r161), (0, .ref b), (1, .ref b0), (2, .ref (qa 0)), (3, .ref (qa 1)), (4, .ref (qa 2)), (5, .ref (qa 3)), (6, .ref (qa 4)), (7, .ref (qa 5)), (8, .ref (qa 6)), (9, .int x9), (10, .int x10), (11, .int x11), (12, .int x12), (13, .int x13), (14, .int x14), (15, .int x15), (17, .int x17), (18, .int x18), (19, .int x19), (20, .int x20), (21, .int x21), (22, .int x22)]) hx hb dL_law_1124 hl (by decide) rfl (fun ls hl => ?_)
        refine lv_aload_n hx hb dL_law_1126 rfl (lv_at hl 2 rfl) ?_
        refine lv_iload hx hb dL_law_1127 (lv_at hl 19 rfl) ?_
        have hkb := hp.1
        have hp := hp.2
        obtain ⟨r162, hr162, hp⟩ := hp
        refine ro_V (As := [.int x19]) (rest := []) ⟨hx, hb, hml, hown, hts⟩ (cn_X4_tableOf l dC dI cI b0 qh qs qr gh gs gr x19 r162 hr162) (cwV 1 hts gL_law_X4_tableOf rfl rfl rfl (by decide +kernel) ⟨Nat.le_of_ble_eq_true rfl, Nat.le_of_ble_eq_true rfl⟩) (tLL hP) hK hN rfl rfl rfl rfl hl.1 (Nat.le_of_ble_eq_true rfl) ⟨by show 200 + 4 * k ≤ 673973; omega, by show 4000 + 24 * k ≤ 7079910; omega⟩ dL_law_1129 ?_
        refine lv_if_ge (tgt := 1147) hx hb dL_law_1132 (by decide) (fun c164 => ?_) (fun c164 => ?_)
        · have hp := hp.1 c164
          rw [eV1147] at hp
          exact hp _ _ _ hP hD hS (lv_sub hl [1, 2, 3, 4, 5, 6, 7, 8, 9, 10, 11, 12, 13, 15, 16, 17, 19, 0] rfl)
        · have hp := hp.2 c164
          refine lv_aload hx hb dL_law_1135 (lv_at hl 5 rfl) ?_
          refine lv_iload hx hb dL_law_1137 (lv_at hl 19 rfl) ?_
          refine va_iald hx hb hK hP 46 0 rfl rfl hp.1 dL_law_1139 ?_
          have hp := hp.2
          refine lv_if_ne (tgt := 1147) hx hb dL_law_1140 (by decide) (fun c163 => ?_) (fun c163 => ?_)
          · have hp := hp.1 c163
            rw [eV1147] at hp
            exact hp _ _ _ hP hD hS (lv_sub hl [1, 2, 3, 4, 5, 6, 7, 8, 9, 10, 11, 12, 13, 15, 16, 17, 19, 0] rfl)
          · have hp := hp.2 c163
            refine lv_iconst (v := 1) hx hb dL_law_1143 (by decide) ?_
            refine lv_goto (tgt := 1148) hx hb dL_law_1144 (by decide) ?_
            rw [eV1148] at hp
            exact hp _ _ _ hP hD hS (lv_sub hl [1, 2, 3, 4, 5, 6, 7, 8, 9, 10, 11, 12, 13, 15, 16, 17, 19, 0] rfl))
  have hp := hp (by
    intro k gh gs gr ga x9 x10 x11 x12 x14 x15 x17 x19 x23 hp
    rw [eV1147]
    intro H locs ls hP hD hS hl
    refine lv_iconst (v := 0) hx hb dL_law_1147 (by decide) ?_
    rw [eV1148] at hp
    exact hp _ _ _ hP hD hS (lv_sub hl [0, 1, 2, 3, 4, 5, 6, 7, 8, 9, 10, 11, 12, 13, 14, 15, 16, 17] rfl))
  have hp := hp (by
    intro k gh gs gr ga x9 x10 x11 x12 x14 x15 x17 x19 x23 t0 hp
    rw [eV1148]
    intro H locs ls hP hD hS hl
    refine lv_istore (lv' := [(24, .int t0), (0, .ref b), (1, .ref b0), (2, .ref (qa 0)), (3, .ref (qa 1)), (4, .ref (qa 2)), (5, .ref (qa 3)), (6, .ref (qa 4)), (7, .ref (qa 5)), (8, .ref (qa 6)), (9, .int x9), (10, .int x10), (11, .int x11), (12, .int x12), (14, .int x14), (15, .int x15), (17, .int x17), (19, .int x19), (23, .int x23)]) hx hb dL_law_1148 hl (by decide) rfl (fun ls hl => ?_)
    refine lv_aload hx hb dL_law_1150 (lv_at hl 5 rfl) ?_
    refine lv_iload hx hb dL_law_1152 (lv_at hl 17 rfl) ?_
    refine va_iald hx hb hK hP 46 0 rfl rfl hp.1 dL_law_1154 ?_
    have hp := hp.2
    refine lv_if_ne (tgt := 1172) hx hb dL_law_1155 (by decide) (fun c225 => ?_) (fun c225 => ?_)
    · have hp := hp.1 c225
      rw [eV1172] at hp
      exact hp _ _ _ hP hD hS (lv_sub hl [1, 2, 3, 4, 5, 6, 7, 8, 9, 10, 11, 12, 13, 14, 15, 16, 17, 18, 0] rfl)
    · have hp := hp.2 c225
      refine lv_aload_n hx hb dL_law_1158 rfl (lv_at hl 2 rfl) ?_
      refine lv_iload hx hb dL_law_1159 (lv_at hl 17 rfl) ?_
      have hkb := hp.1
      have hp := hp.2
      obtain ⟨r223, hr223, hp⟩ := hp
      refine ro_V (As := [.int x19]) (rest := []) ⟨hx, hb, hml, hown, hts⟩ (cn_X4_copyOf l dC dI cI b0 qh qs qr gh gs gr x19 r223 hr223) (cwV 1 hts gL_law_X4_copyOf rfl rfl rfl (by decide +kernel) ⟨Nat.le_of_ble_eq_true rfl, Nat.le_of_ble_eq_true rfl⟩) (tLL hP) hK hN rfl rfl rfl rfl hl.1 (Nat.le_of_ble_eq_true rfl) ⟨by show 200 + 4 * k ≤ 673973; omega, by show 4000 + 24 * k ≤ 7079910; omega⟩ dL_law_1161 ?_
      refine lv_iconst (v := -1) hx hb dL_law_1164 (by decide) ?_
      refine lv_icmp_ne (tgt := 1172) hx hb dL_law_1165 (by decide) (fun c224 => ?_) (fun c224 => ?_)
      · have hp := hp.1 c224
        rw [eV1172] at hp
        exact hp _ _ _ hP hD hS (lv_sub hl [1, 2, 3, 4, 5, 6, 7, 8, 9, 10, 11, 12, 13, 14, 15, 16, 17, 18, 0] rfl)
      · have hp := hp.2 c224
        refine lv_iconst (v := 1) hx hb dL_law_1168 (by decide) ?_
        refine lv_goto (tgt := 1173) hx hb dL_law_1169 (by decide) ?_
        rw [eV1173] at hp
        exact hp _ _ _ hP hD hS (lv_sub hl [1, 2, 3, 4, 5, 6, 7, 8, 9, 10, 11, 12, 13, 14, 15, 16, 17, 18, 0] rfl))
  have hp := hp (by
    intro k gh gs gr ga x9 x10 x11 x12 x14 x15 x17 x19 x23 x24 hp
    rw [eV1172]
    intro H locs ls hP hD hS hl
    refine lv_iconst (v := 0) hx hb dL_law_1172 (by decide) ?_
    rw [eV1173] at hp
    exact hp _ _ _ hP hD hS (lv_sub hl [0, 1, 2, 3, 4, 5, 6, 7, 8, 9, 10, 11, 12, 13, 14, 15, 16, 17, 18] rfl))
  have hp := hp (by
    intro k gh gs gr ga x9 x10 x11 x12 x14 x15 x17 x19 x23 x24 t0 hp
    rw [eV1173]
    intro H locs ls hP hD hS hl
    refine lv_istore (lv' := [(25, .int t0), (0, .ref b), (1, .ref b0), (2, .ref (qa 0)), (3, .ref (qa 1)), (4, .ref (qa 2)), (5, .ref (qa 3)), (6, .ref (qa 4)), (7, .ref (qa 5)), (8, .ref (qa 6)), (9, .int x9), (10, .int x10), (11, .int x11), (12, .int x12), (14, .int x14), (15, .int x15), (17, .int x17), (19, .int x19), (23, .int x23), (24, .int x24)]) hx hb dL_law_1173 hl (by decide) rfl (fun ls hl => ?_)
    refine lv_aload_n hx hb dL_law_1175 rfl (lv_at hl 2 rfl) ?_
    refine lv_iconst (v := 0) hx hb dL_law_1176 (by decide) ?_
    refine lv_iload hx hb dL_law_1177 (lv_at hl 17 rfl) ?_
    refine lv_iconst (v := 0) hx hb dL_law_1179 (by decide) ?_
    refine lv_iconst (v := 0) hx hb dL_law_1180 (by decide) ?_
    have hkb := hp.1
    have hp := hp.2
    refine pw_SW (As := [.ref b0, .int (0 : Int32), .int x19, .int (0 : Int32), .int (0 : Int32)]) (rest := []) (w1 := []) (w2 := wA qa cI ga) (wsd := fun u : St × St × St => wLL b0 qh qs qr qa cI u.1 u.2.1 u.2.2 ga) ⟨hx, hb, hml, hown, hts⟩ (c_L_on l hfl dC dI cI b0 qh qs qr gh gs gr (0 : Int32) x19 (0 : Int32) (0 : Int32) _ hp _) (vx_cwSW 5 hts gL_law_L_on rfl rfl rfl (by decide +kernel) ⟨Nat.le_of_ble_eq_true rfl, Nat.le_of_ble_eq_true rfl⟩) hP hD hS hA hK hN hXS hXH (wLL_eq ..) (fun u => rfl) rfl rfl hl.1 (Nat.le_of_ble_eq_true rfl) ⟨by show 200 + 4 * k + 4 ≤ 673973; omega, by show 4000 + 24 * k + 24 ≤ 7079910; omega⟩ dL_law_1181 (fun r247 u H locs hp hP hD hS => ?_)
    obtain ⟨gh248, gs249, gr250⟩ := u
    refine W.widen (k := 200 + 4 * (k + 1)) (n := 4000 + 24 * (k + 1)) (by omega) (by omega) ?_
    refine lv_istore (lv' := [(26, .int r247), (25, .int t0), (0, .ref b), (1, .ref b0), (2, .ref (qa 0)), (3, .ref (qa 1)), (4, .ref (qa 2)), (5, .ref (qa 3)), (6, .ref (qa 4)), (7, .ref (qa 5)), (8, .ref (qa 6)), (9, .int x9), (10, .int x10), (11, .int x11), (12, .int x12), (14, .int x14), (15, .int x15), (17, .int x17), (19, .int x19), (23, .int x23), (24, .int x24)]) hx hb dL_law_1184 hl (by decide) rfl (fun ls hl => ?_)
    refine lv_iload hx hb dL_law_1186 (lv_at hl 0 rfl) ?_
    refine lv_bipush (v := -13) hx hb dL_law_1188 (by decide) ?_
    refine lv_icmp_ne (tgt := 1197) hx hb dL_law_1190 (by decide) (fun c251 => ?_) (fun c251 => ?_)
    · have hp := hp.1 c251
      refine lv_iconst (v := 0) hx hb dL_law_1197 (by decide) ?_
      rw [eV1198] at hp
      exact hp _ _ _ hP hD hS (lv_sub hl [2, 3, 4, 5, 6, 7, 8, 9, 10, 11, 12, 13, 14, 15, 16, 17, 18, 19, 20, 1, 0] rfl)
    · have hp := hp.2 c251
      refine lv_iconst (v := 1) hx hb dL_law_1193 (by decide) ?_
      refine lv_goto (tgt := 1198) hx hb dL_law_1194 (by decide) ?_
      rw [eV1198] at hp
      exact hp _ _ _ hP hD hS (lv_sub hl [2, 3, 4, 5, 6, 7, 8, 9, 10, 11, 12, 13, 14, 15, 16, 17, 18, 19, 20, 1, 0] rfl))
  have hp := hp (by
    intro k gh gs gr ga x9 x10 x11 x12 x14 x15 x17 x19 x23 x24 x25 x26 t0 hp
    rw [eV1198]
    intro H locs ls hP hD hS hl
    refine lv_iload hx hb dL_law_1198 (lv_at hl 19 rfl) ?_
    refine lv_if_ne (tgt := 1207) hx hb dL_law_1200 (by decide) (fun c281 => ?_) (fun c281 => ?_)
    · have hp := hp.1 c281
      refine lv_iconst (v := 0) hx hb dL_law_1207 (by decide) ?_
      rw [eV1208] at hp
      exact hp _ _ _ hP hD hS (lv_sub hl [0, 1, 2, 3, 4, 5, 6, 7, 8, 9, 10, 11, 12, 13, 14, 15, 16, 17, 18, 20] rfl)
    · have hp := hp.2 c281
      refine lv_iconst (v := 1) hx hb dL_law_1203 (by decide) ?_
      refine lv_goto (tgt := 1208) hx hb dL_law_1204 (by decide) ?_
      rw [eV1208] at hp
      exact hp _ _ _ hP hD hS (lv_sub hl [0, 1, 2, 3, 4, 5, 6, 7, 8, 9, 10, 11, 12, 13, 14, 15, 16, 17, 18, 20] rfl))
  have hp := hp (by
    intro k gh gs gr ga x9 x10 x11 x12 x14 x15 x17 x19 x23 x24 x26 t0 t1 hp
    rw [eV1208]
    intro H locs ls hP hD hS hl
    refine lv_icmp_ne (tgt := 1265) hx hb dL_law_1208 (by decide) (fun c313 => ?_) (fun c313 => ?_)
    · have hp := hp.1 c313
      rw [eV1265] at hp
      exact hp _ _ _ hP hD hS (lv_sub hl [0, 1, 2, 3, 4, 5, 6, 7, 8, 9, 10, 11, 12, 13, 14, 15, 16, 19] rfl)
    · have hp := hp.2 c313
      refine lv_iload hx hb dL_law_1211 (lv_at hl 19 rfl) ?_
      refine lv_if_ge (tgt := 1228) hx hb dL_law_1213 (by decide) (fun c312 => ?_) (fun c312 => ?_)
      · have hp := hp.1 c312
        refine lv_aload_n hx hb dL_law_1228 rfl (lv_at hl 1 rfl) ?_
        have hkb := hp.1
        have hp := hp.2
        obtain ⟨r302, hr302, hp⟩ := hp
        refine ro_V (As := []) (rest := []) ⟨hx, hb, hml, hown, hts⟩ (c_X4_waiting l dC dI cI b0 qh qs qr gh gs gr r302 hr302) (cwV 0 hts gL_law_X4_waiting rfl rfl rfl (by decide +kernel) ⟨Nat.le_of_ble_eq_true rfl, Nat.le_of_ble_eq_true rfl⟩) (tLL hP) hK hN rfl rfl rfl rfl hl.1 (Nat.le_of_ble_eq_true rfl) ⟨by show 200 + 4 * k ≤ 673973; omega, by show 4000 + 24 * k ≤ 7079910; omega⟩ dL_law_1229 ?_
        refine lv_iload hx hb dL_law_1232 (lv_at hl 17 rfl) ?_
        refine lv_iload hx hb dL_law_1234 (lv_at hl 19 rfl) ?_
        refine lv_isub hx hb dL_law_1236 ?_
        refine lv_iload hx hb dL_law_1237 (lv_at hl 18 rfl) ?_
        refine lv_if_eq (tgt := 1246) hx hb dL_law_1239 (by decide) (fun c309 => ?_) (fun c309 => ?_)
        · have hp := hp.1 c309
          refine lv_iconst (v := 0) hx hb dL_law_1246 (by decide) ?_
          refine lv_isub hx hb dL_law_1247 ?_
          refine lv_icmp_ne (tgt := 1265) hx hb dL_law_1248 (by decide) (fun c305 => ?_) (fun c305 => ?_)
          · have hp := hp.1 c305
            rw [eV1265] at hp
            exact hp _ _ _ hP hD hS (lv_sub hl [0, 1, 2, 3, 4, 5, 6, 7, 8, 9, 10, 11, 12, 13, 14, 15, 16, 19] rfl)
          · have hp := hp.2 c305
            refine lv_aload_n hx hb dL_law_1251 rfl (lv_at hl 1 rfl) ?_
            refine lv_iload hx hb dL_law_1252 (lv_at hl 16 rfl) ?_
            have hkb := hp.1
            have hp := hp.2
            obtain ⟨r303, hr303, hp⟩ := hp
            refine ro_V (As := [.int x19]) (rest := []) ⟨hx, hb, hml, hown, hts⟩ (cn_X4_tableOf l dC dI cI b0 qh qs qr gh gs gr x19 r303 hr303) (cwV 1 hts gL_law_X4_tableOf rfl rfl rfl (by decide +kernel) ⟨Nat.le_of_ble_eq_true rfl, Nat.le_of_ble_eq_true rfl⟩) (tLL hP) hK hN rfl rfl rfl rfl hl.1 (Nat.le_of_ble_eq_true rfl) ⟨by show 200 + 4 * k ≤ 673973; omega, by show 4000 + 24 * k ≤ 7079910; omega⟩ dL_law_1254 ?_
            refine lv_iconst (v := -1) hx hb dL_law_1257 (by decide) ?_
            refine lv_icmp_ne (tgt := 1265) hx hb dL_law_1258 (by decide) (fun c304 => ?_) (fun c304 => ?_)
            · have hp := hp.1 c304
              rw [eV1265] at hp
              exact hp _ _ _ hP hD hS (lv_sub hl [0, 1, 2, 3, 4, 5, 6, 7, 8, 9, 10, 11, 12, 13, 14, 15, 16, 19] rfl)
            · have hp := hp.2 c304
              rw [eV1261] at hp
              exact hp _ _ _ hP hD hS (lv_sub hl [0, 1, 2, 3, 4, 5, 6, 7, 8, 9, 10, 11, 12, 13, 14, 15, 16, 19] rfl)
        · have hp := hp.2 c309
          refine lv_iconst (v := 1) hx hb dL_law_1242 (by decide) ?_
          refine lv_goto (tgt := 1247) hx hb dL_law_1243 (by decide) ?_
          refine lv_isub hx hb dL_law_1247 ?_
          refine lv_icmp_ne (tgt := 1265) hx hb dL_law_1248 (by decide) (fun c308 => ?_) (fun c308 => ?_)
          · have hp := hp.1 c308
            rw [eV1265] at hp
            exact hp _ _ _ hP hD hS (lv_sub hl [0, 1, 2, 3, 4, 5, 6, 7, 8, 9, 10, 11, 12, 13, 14, 15, 16, 19] rfl)
          · have hp := hp.2 c308
            refine lv_aload_n hx hb dL_law_1251 rfl (lv_at hl 1 rfl) ?_
            refine lv_iload hx hb dL_law_1252 (lv_at hl 16 rfl) ?_
            have hkb := hp.1
            have hp := hp.2
            obtain ⟨r306, hr306, hp⟩ := hp
            refine ro_V (As := [.int x19]) (rest := []) ⟨hx, hb, hml, hown, hts⟩ (cn_X4_tableOf l dC dI cI b0 qh qs qr gh gs gr x19 r306 hr306) (cwV 1 hts gL_law_X4_tableOf rfl rfl rfl (by decide +kernel) ⟨Nat.le_of_ble_eq_true rfl, Nat.le_of_ble_eq_true rfl⟩) (tLL hP) hK hN rfl rfl rfl rfl hl.1 (Nat.le_of_ble_eq_true rfl) ⟨by show 200 + 4 * k ≤ 673973; omega, by show 4000 + 24 * k ≤ 7079910; omega⟩ dL_law_1254 ?_
            refine lv_iconst (v := -1) hx hb dL_law_1257 (by decide) ?_
            refine lv_icmp_ne (tgt := 1265) hx hb dL_law_1258 (by decide) (fun c307 => ?_) (fun c307 => ?_)
            · have hp := hp.1 c307
              rw [eV1265] at hp
              exact hp _ _ _ hP hD hS (lv_sub hl [0, 1, 2, 3, 4, 5, 6, 7, 8, 9, 10, 11, 12, 13, 14, 15, 16, 19] rfl)
            · have hp := hp.2 c307
              rw [eV1261] at hp
              exact hp _ _ _ hP hD hS (lv_sub hl [0, 1, 2, 3, 4, 5, 6, 7, 8, 9, 10, 11, 12, 13, 14, 15, 16, 19] rfl)
      · have hp := hp.2 c312
        refine lv_aload_n hx hb dL_law_1216 rfl (lv_at hl 1 rfl) ?_
        have hkb := hp.1
        have hp := hp.2
        obtain ⟨r310, hr310, hp⟩ := hp
        refine ro_V (As := []) (rest := []) ⟨hx, hb, hml, hown, hts⟩ (c_X4_waiting l dC dI cI b0 qh qs qr gh gs gr r310 hr310) (cwV 0 hts gL_law_X4_waiting rfl rfl rfl (by decide +kernel) ⟨Nat.le_of_ble_eq_true rfl, Nat.le_of_ble_eq_true rfl⟩) (tLL hP) hK hN rfl rfl rfl rfl hl.1 (Nat.le_of_ble_eq_true rfl) ⟨by show 200 + 4 * k ≤ 673973; omega, by show 4000 + 24 * k ≤ 7079910; omega⟩ dL_law_1217 ?_
        refine lv_iload hx hb dL_law_1220 (lv_at hl 17 rfl) ?_
        refine lv_icmp_ne (tgt := 1265) hx hb dL_law_1222 (by decide) (fun c311 => ?_) (fun c311 => ?_)
        · have hp := hp.1 c311
          rw [eV1265] at hp
          exact hp _ _ _ hP hD hS (lv_sub hl [0, 1, 2, 3, 4, 5, 6, 7, 8, 9, 10, 11, 12, 13, 14, 15, 16, 19] rfl)
        · have hp := hp.2 c311
          refine lv_goto (tgt := 1261) hx hb dL_law_1225 (by decide) ?_
          rw [eV1261] at hp
          exact hp _ _ _ hP hD hS (lv_sub hl [0, 1, 2, 3, 4, 5, 6, 7, 8, 9, 10, 11, 12, 13, 14, 15, 16, 19] rfl))
  have hp := hp (by
    intro k gh gs gr ga x9 x10 x11 x12 x14 x15 x17 x19 x26 hp
    rw [eV1261]
    intro H locs ls hP hD hS hl
    refine lv_iconst (v := 1) hx hb dL_law_1261 (by decide) ?_
    refine lv_goto (tgt := 1266) hx hb dL_law_1262 (by decide) ?_
    rw [eV1266] at hp
    exact hp _ _ _ hP hD hS (lv_sub hl [0, 1, 2, 3, 4, 5, 6, 7, 8, 9, 10, 11, 12, 13, 14, 15, 16, 17] rfl))
  have hp := hp (by
    intro k gh gs gr ga x9 x10 x11 x12 x14 x15 x17 x19 x26 hp
    rw [eV1265]
    intro H locs ls hP hD hS hl
    refine lv_iconst (v := 0) hx hb dL_law_1265 (by decide) ?_
    rw [eV1266] at hp
    exact hp _ _ _ hP hD hS (lv_sub hl [0, 1, 2, 3, 4, 5, 6, 7, 8, 9, 10, 11, 12, 13, 14, 15, 16, 17] rfl))
  have hp := hp (by
    intro k gh gs gr ga x9 x10 x11 x12 x14 x15 x17 x19 x26 t0 hp
    rw [eV1266]
    intro H locs ls hP hD hS hl
    refine lv_istore (lv' := [(13, .int t0), (0, .ref b), (1, .ref b0), (2, .ref (qa 0)), (3, .ref (qa 1)), (4, .ref (qa 2)), (5, .ref (qa 3)), (6, .ref (qa 4)), (7, .ref (qa 5)), (8, .ref (qa 6)), (9, .int x9), (10, .int x10), (11, .int x11), (12, .int x12), (14, .int x14), (15, .int x15), (17, .int x17), (19, .int x19), (26, .int x26)]) hx hb dL_law_1266 hl (by decide) rfl (fun ls hl => ?_)
    refine lv_aload hx hb dL_law_1268 (lv_at hl 5 rfl) ?_
    refine lv_iload hx hb dL_law_1270 (lv_at hl 17 rfl) ?_
    refine lv_iload hx hb dL_law_1272 (lv_at hl 18 rfl) ?_
    refine lv_if_ge (tgt := 1285) hx hb dL_law_1274 (by decide) (fun c316 => ?_) (fun c316 => ?_)
    · have hp := hp.1 c316
      refine lv_iconst (v := 1) hx hb dL_law_1285 (by decide) ?_
      refine va_iast hx hb hK hP hD hS 46 0 rfl rfl hp.1 dL_law_1286 (fun H locs hP hD hS => ?_)
      have hp := hp.2
      obtain ⟨g314, eg314⟩ : ∃ z : St, z = st_set ga 2 x19.toNatClampNeg (1 : Int32) := ⟨_, rfl⟩
      have hp := hp g314 eg314
      have hP : va_P (dC, dI) vwCl (wLL b0 qh qs qr qa cI gh gs gr g314) H := by rw [eg314]; exact hP
      have hD : va_D A (wLL b0 qh qs qr qa cI gh gs gr g314) := by rw [eg314]; exact hD
      refine lv_goto (tgt := 1770) hx hb dL_law_1287 (by decide) ?_
      rw [eV1770] at hp
      exact hp _ _ _ hP hD hS (lv_sub hl [1, 2, 3, 4, 5, 6, 7, 8, 9, 10, 11, 12, 13, 0, 14, 15, 16] rfl)
    · have hp := hp.2 c316
      refine lv_aload hx hb dL_law_1277 (lv_at hl 5 rfl) ?_
      refine lv_iload hx hb dL_law_1279 (lv_at hl 17 rfl) ?_
      refine va_iald hx hb hK hP 46 0 rfl rfl hp.1 dL_law_1281 ?_
      have hp := hp.2
      refine lv_goto (tgt := 1286) hx hb dL_law_1282 (by decide) ?_
      refine va_iast hx hb hK hP hD hS 46 0 rfl rfl hp.1 dL_law_1286 (fun H locs hP hD hS => ?_)
      have hp := hp.2
      obtain ⟨g315, eg315⟩ : ∃ z : St, z = st_set ga 2 x19.toNatClampNeg (ga 2 x19.toNatClampNeg) := ⟨_, rfl⟩
      have hp := hp g315 eg315
      have hP : va_P (dC, dI) vwCl (wLL b0 qh qs qr qa cI gh gs gr g315) H := by rw [eg315]; exact hP
      have hD : va_D A (wLL b0 qh qs qr qa cI gh gs gr g315) := by rw [eg315]; exact hD
      refine lv_goto (tgt := 1770) hx hb dL_law_1287 (by decide) ?_
      rw [eV1770] at hp
      exact hp _ _ _ hP hD hS (lv_sub hl [1, 2, 3, 4, 5, 6, 7, 8, 9, 10, 11, 12, 13, 0, 14, 15, 16] rfl))
  have hp := hp (by
    intro k gh gs gr ga x9 x10 x11 x12 x13 x14 x15 x17 x18 x19 x20 x21 x22 hp
    rw [eV1290]
    intro H locs ls hP hD hS hl
    refine lv_iload hx hb dL_law_1290 (lv_at hl 17 rfl) ?_
    refine lv_bipush (v := 12) hx hb dL_law_1292 (by decide) ?_
    refine lv_icmp_ge (tgt := 1489) hx hb dL_law_1294 (by decide) (fun c222 => ?_) (fun c222 => ?_)
    · have hp := hp.1 c222
      rw [eV1489] at hp
      exact hp _ _ _ hP hD hS (lv_sub hl [0, 1, 2, 3, 4, 5, 6, 7, 8, 9, 10, 11, 12, 13, 14, 15, 16, 17, 18, 20, 21] rfl)
    · have hp := hp.2 c222
      refine lv_iload hx hb dL_law_1297 (lv_at hl 10 rfl) ?_
      refine lv_if_le (tgt := 1489) hx hb dL_law_1299 (by decide) (fun c221 => ?_) (fun c221 => ?_)
      · have hp := hp.1 c221
        rw [eV1489] at hp
        exact hp _ _ _ hP hD hS (lv_sub hl [0, 1, 2, 3, 4, 5, 6, 7, 8, 9, 10, 11, 12, 13, 14, 15, 16, 17, 18, 20, 21] rfl)
      · have hp := hp.2 c221
        refine lv_iload hx hb dL_law_1302 (lv_at hl 11 rfl) ?_
        refine lv_if_le (tgt := 1489) hx hb dL_law_1304 (by decide) (fun c220 => ?_) (fun c220 => ?_)
        · have hp := hp.1 c220
          rw [eV1489] at hp
          exact hp _ _ _ hP hD hS (lv_sub hl [0, 1, 2, 3, 4, 5, 6, 7, 8, 9, 10, 11, 12, 13, 14, 15, 16, 17, 18, 20, 21] rfl)
        · have hp := hp.2 c220
          refine lv_aload_n hx hb dL_law_1307 rfl (lv_at hl 1 rfl) ?_
          refine lv_iload hx hb dL_law_1308 (lv_at hl 12 rfl) ?_
          refine lv_iload hx hb dL_law_1310 (lv_at hl 21 rfl) ?_
          have hkb := hp.1
          have hp := hp.2
          obtain ⟨r196, hr196, hp⟩ := hp
          refine ro_S (As := [.ref b0, .int x12, .int x22]) (rest := []) ⟨hx, hb, hml, hown, hts⟩ (c_L_pieces l dC dI cI b0 qh qs qr qa gh gs gr ga x12 x22 r196 hr196) (va_cwS 3 hts gL_law_L_pieces rfl rfl rfl (by decide +kernel) ⟨Nat.le_of_ble_eq_true rfl, Nat.le_of_ble_eq_true rfl⟩) hP hK hN rfl rfl hl.1 (Nat.le_of_ble_eq_true rfl) ⟨by show 200 + 4 * k ≤ 673973; omega, by show 4000 + 24 * k ≤ 7079910; omega⟩ dL_law_1312 ?_
          refine lv_istore (lv' := [(23, .int r196), (0, .ref b), (1, .ref b0), (2, .ref (qa 0)), (3, .ref (qa 1)), (4, .ref (qa 2)), (5, .ref (qa 3)), (6, .ref (qa 4)), (7, .ref (qa 5)), (8, .ref (qa 6)), (9, .int x9), (10, .int x10), (11, .int x11), (12, .int x12), (13, .int x13), (14, .int x14), (15, .int x15), (17, .int x17), (18, .int x18), (19, .int x19), (20, .int x20), (21, .int x21), (22, .int x22)]) hx hb dL_law_1315 hl (by decide) rfl (fun ls hl => ?_)
          refine lv_aload_n hx hb dL_law_1317 rfl (lv_at hl 2 rfl) ?_
          refine lv_iconst (v := 2) hx hb dL_law_1318 (by decide) ?_
          refine lv_iload hx hb dL_law_1319 (lv_at hl 19 rfl) ?_
          refine lv_iload hx hb dL_law_1321 (lv_at hl 20 rfl) ?_
          refine lv_iconst (v := 0) hx hb dL_law_1323 (by decide) ?_
          have hkb := hp.1
          have hp := hp.2
          refine pw_SW (As := [.ref b0, .int (2 : Int32), .int x19, .int x20, .int (0 : Int32)]) (rest := []) (w1 := []) (w2 := wA qa cI ga) (wsd := fun u : St × St × St => wLL b0 qh qs qr qa cI u.1 u.2.1 u.2.2 ga) ⟨hx, hb, hml, hown, hts⟩ (c_L_on l hfl dC dI cI b0 qh qs qr gh gs gr (2 : Int32) x19 x20 (0 : Int32) _ hp _) (vx_cwSW 5 hts gL_law_L_on rfl rfl rfl (by decide +kernel) ⟨Nat.le_of_ble_eq_true rfl, Nat.le_of_ble_eq_true rfl⟩) hP hD hS hA hK hN hXS hXH (wLL_eq ..) (fun u => rfl) rfl rfl hl.1 (Nat.le_of_ble_eq_true rfl) ⟨by show 200 + 4 * k + 4 ≤ 673973; omega, by show 4000 + 24 * k + 24 ≤ 7079910; omega⟩ dL_law_1324 (fun r200 u H locs hp hP hD hS => ?_)
          obtain ⟨gh201, gs202, gr203⟩ := u
          refine W.widen (k := 200 + 4 * (k + 1)) (n := 4000 + 24 * (k + 1)) (by omega) (by omega) ?_
          refine lv_istore (lv' := [(24, .int r200), (23, .int r196), (0, .ref b), (1, .ref b0), (2, .ref (qa 0)), (3, .ref (qa 1)), (4, .ref (qa 2)), (5, .ref (qa 3)), (6, .ref (qa 4)), (7, .ref (qa 5)), (8, .ref (qa 6)), (9, .int x9), (10, .int x10), (11, .int x11), (12, .int x12), (13, .int x13), (14, .int x14), (15, .int x15), (17, .int x17), (18, .int x18), (19, .int x19), (20, .int x20), (21, .int x21), (22, .int x22)]) hx hb dL_law_1327 hl (by decide) rfl (fun ls hl => ?_)
          refine lv_iload hx hb dL_law_1329 (lv_at hl 0 rfl) ?_
          refine lv_bipush (v := -13) hx hb dL_law_1331 (by decide) ?_
          refine lv_icmp_ne (tgt := 1399) hx hb dL_law_1333 (by decide) (fun c219 => ?_) (fun c219 => ?_)
          · have hp := hp.1 c219
            refine lv_aload hx hb dL_law_1399 (lv_at hl 7 rfl) ?_
            refine lv_iload hx hb dL_law_1401 (lv_at hl 0 rfl) ?_
            refine va_iald hx hb hK hP 47 0 rfl rfl hp.1 dL_law_1403 ?_
            have hp := hp.2
            refine lv_iload hx hb dL_law_1404 (lv_at hl 21 rfl) ?_
            refine lv_icmp_ne (tgt := 1458) hx hb dL_law_1406 (by decide) (fun c215 => ?_) (fun c215 => ?_)
            · have hp := hp.1 c215
              refine lv_iconst (v := 0) hx hb dL_law_1458 (by decide) ?_
              refine lv_istore (lv' := [(13, .int (0 : Int32)), (24, .int r200), (23, .int r196), (0, .ref b), (1, .ref b0), (2, .ref (qa 0)), (3, .ref (qa 1)), (4, .ref (qa 2)), (5, .ref (qa 3)), (6, .ref (qa 4)), (7, .ref (qa 5)), (8, .ref (qa 6)), (9, .int x9), (10, .int x10), (11, .int x11), (12, .int x12), (14, .int x14), (15, .int x15), (17, .int x17), (18, .int x18), (19, .int x19), (20, .int x20), (21, .int x21), (22, .int x22)]) hx hb dL_law_1459 hl (by decide) rfl (fun ls hl => ?_)
              rw [eV1461] at hp
              exact hp _ _ _ hP hD hS (lv_sub hl [3, 4, 5, 6, 7, 8, 9, 10, 11, 12, 13, 14, 15, 0, 16, 17, 18, 23, 2] rfl)
            · have hp := hp.2 c215
              refine lv_aload_n hx hb dL_law_1409 rfl (lv_at hl 3 rfl) ?_
              refine lv_iload hx hb dL_law_1410 (lv_at hl 20 rfl) ?_
              have hkb := hp.1
              have hp := hp.2
              obtain ⟨r204, hr204, hp⟩ := hp
              refine ro_V (As := [.int x19]) (rest := []) ⟨hx, hb, hml, hown, hts⟩ (cn_X4_copyOf l dC dI cI b0 qh qs qr gh201 gs202 gr203 x19 r204 hr204) (cwV 1 hts gL_law_X4_copyOf rfl rfl rfl (by decide +kernel) ⟨Nat.le_of_ble_eq_true rfl, Nat.le_of_ble_eq_true rfl⟩) (tLL hP) hK hN rfl rfl rfl rfl hl.1 (Nat.le_of_ble_eq_true rfl) ⟨by show 200 + 4 * (k + 1) ≤ 673973; omega, by show 4000 + 24 * (k + 1) ≤ 7079910; omega⟩ dL_law_1412 ?_
              refine lv_iload hx hb dL_law_1415 (lv_at hl 0 rfl) ?_
              refine lv_icmp_ne (tgt := 1458) hx hb dL_law_1417 (by decide) (fun c214 => ?_) (fun c214 => ?_)
              · have hp := hp.1 c214
                refine lv_iconst (v := 0) hx hb dL_law_1458 (by decide) ?_
                refine lv_istore (lv' := [(13, .int (0 : Int32)), (24, .int r200), (23, .int r196), (0, .ref b), (1, .ref b0), (2, .ref (qa 0)), (3, .ref (qa 1)), (4, .ref (qa 2)), (5, .ref (qa 3)), (6, .ref (qa 4)), (7, .ref (qa 5)), (8, .ref (qa 6)), (9, .int x9), (10, .int x10), (11, .int x11), (12, .int x12), (14, .int x14), (15, .int x15), (17, .int x17), (18, .int x18), (19, .int x19), (20, .int x20), (21, .int x21), (22, .int x22)]) hx hb dL_law_1459 hl (by decide) rfl (fun ls hl => ?_)
                rw [eV1461] at hp
                exact hp _ _ _ hP hD hS (lv_sub hl [3, 4, 5, 6, 7, 8, 9, 10, 11, 12, 13, 14, 15, 0, 16, 17, 18, 23, 2] rfl)
              · have hp := hp.2 c214
                refine lv_aload_n hx hb dL_law_1420 rfl (lv_at hl 3 rfl) ?_
                refine lv_iload hx hb dL_law_1421 (lv_at hl 0 rfl) ?_
                have hkb := hp.1
                have hp := hp.2
                obtain ⟨r205, hr205, hp⟩ := hp
                refine ro_V (As := [.int r200]) (rest := []) ⟨hx, hb, hml, hown, hts⟩ (cn_X4_stateOf l dC dI cI b0 qh qs qr gh201 gs202 gr203 r200 r205 hr205) (cwV 1 hts gL_law_X4_stateOf rfl rfl rfl (by decide +kernel) ⟨Nat.le_of_ble_eq_true rfl, Nat.le_of_ble_eq_true rfl⟩) (tLL hP) hK hN rfl rfl rfl rfl hl.1 (Nat.le_of_ble_eq_true rfl) ⟨by show 200 + 4 * (k + 1) ≤ 673973; omega, by show 4000 + 24 * (k + 1) ≤ 7079910; omega⟩ dL_law_1423 ?_
                refine lv_iconst (v := 1) hx hb dL_law_1426 (by decide) ?_
                refine lv_icmp_ne (tgt := 1458) hx hb dL_law_1427 (by decide) (fun c213 => ?_) (fun c213 => ?_)
                · have hp := hp.1 c213
                  refine lv_iconst (v := 0) hx hb dL_law_1458 (by decide) ?_
                  refine lv_istore (lv' := [(13, .int (0 : Int32)), (24, .int r200), (23, .int r196), (0, .ref b), (1, .ref b0), (2, .ref (qa 0)), (3, .ref (qa 1)), (4, .ref (qa 2)), (5, .ref (qa 3)), (6, .ref (qa 4)), (7, .ref (qa 5)), (8, .ref (qa 6)), (9, .int x9), (10, .int x10), (11, .int x11), (12, .int x12), (14, .int x14), (15, .int x15), (17, .int x17), (18, .int x18), (19, .int x19), (20, .int x20), (21, .int x21), (22, .int x22)]) hx hb dL_law_1459 hl (by decide) rfl (fun ls hl => ?_)
                  rw [eV1461] at hp
                  exact hp _ _ _ hP hD hS (lv_sub hl [3, 4, 5, 6, 7, 8, 9, 10, 11, 12, 13, 14, 15, 0, 16, 17, 18, 23, 2] rfl)
                · have hp := hp.2 c213
                  refine lv_aload_n hx hb dL_law_1430 rfl (lv_at hl 3 rfl) ?_
                  refine lv_iload hx hb dL_law_1431 (lv_at hl 20 rfl) ?_
                  have hkb := hp.1
                  have hp := hp.2
                  obtain ⟨r206, hr206, hp⟩ := hp
                  refine ro_V (As := [.int x19]) (rest := []) ⟨hx, hb, hml, hown, hts⟩ (cn_X4_offers l dC dI cI b0 qh qs qr gh201 gs202 gr203 x19 r206 hr206) (cwV 1 hts gL_law_X4_offers rfl rfl rfl (by decide +kernel) ⟨Nat.le_of_ble_eq_true rfl, Nat.le_of_ble_eq_true rfl⟩) (tLL hP) hK hN rfl rfl rfl rfl hl.1 (Nat.le_of_ble_eq_true rfl) ⟨by show 200 + 4 * (k + 1) ≤ 673973; omega, by show 4000 + 24 * (k + 1) ≤ 7079910; omega⟩ dL_law_1433 ?_
                  refine lv_if_ne (tgt := 1458) hx hb dL_law_1436 (by decide) (fun c212 => ?_) (fun c212 => ?_)
                  · have hp := hp.1 c212
                    refine lv_iconst (v := 0) hx hb dL_law_1458 (by decide) ?_
                    refine lv_istore (lv' := [(13, .int (0 : Int32)), (24, .int r200), (23, .int r196), (0, .ref b), (1, .ref b0), (2, .ref (qa 0)), (3, .ref (qa 1)), (4, .ref (qa 2)), (5, .ref (qa 3)), (6, .ref (qa 4)), (7, .ref (qa 5)), (8, .ref (qa 6)), (9, .int x9), (10, .int x10), (11, .int x11), (12, .int x12), (14, .int x14), (15, .int x15), (17, .int x17), (18, .int x18), (19, .int x19), (20, .int x20), (21, .int x21), (22, .int x22)]) hx hb dL_law_1459 hl (by decide) rfl (fun ls hl => ?_)
                    rw [eV1461] at hp
                    exact hp _ _ _ hP hD hS (lv_sub hl [3, 4, 5, 6, 7, 8, 9, 10, 11, 12, 13, 14, 15, 0, 16, 17, 18, 23, 2] rfl)
                  · have hp := hp.2 c212
                    refine lv_aload_n hx hb dL_law_1439 rfl (lv_at hl 3 rfl) ?_
                    refine lv_iconst (v := 2) hx hb dL_law_1440 (by decide) ?_
                    refine lv_iload hx hb dL_law_1441 (lv_at hl 20 rfl) ?_
                    refine lv_iload hx hb dL_law_1443 (lv_at hl 21 rfl) ?_
                    refine lv_iconst (v := 0) hx hb dL_law_1445 (by decide) ?_
                    have hkb := hp.1
                    have hp := hp.2
                    refine pw_SW (As := [.ref b0, .int (2 : Int32), .int x19, .int x20, .int (0 : Int32)]) (rest := []) (w1 := []) (w2 := wA qa cI ga) (wsd := fun u : St × St × St => wLL b0 qh qs qr qa cI u.1 u.2.1 u.2.2 ga) ⟨hx, hb, hml, hown, hts⟩ (c_L_on l hfl dC dI cI b0 qh qs qr gh201 gs202 gr203 (2 : Int32) x19 x20 (0 : Int32) _ hp _) (vx_cwSW 5 hts gL_law_L_on rfl rfl rfl (by decide +kernel) ⟨Nat.le_of_ble_eq_true rfl, Nat.le_of_ble_eq_true rfl⟩) hP hD hS hA hK hN hXS hXH (wLL_eq ..) (fun u => rfl) rfl rfl hl.1 (Nat.le_of_ble_eq_true rfl) ⟨by show 200 + 4 * (k + 1) + 4 ≤ 673973; omega, by show 4000 + 24 * (k + 1) + 24 ≤ 7079910; omega⟩ dL_law_1446 (fun r207 u H locs hp hP hD hS => ?_)
                    obtain ⟨gh208, gs209, gr210⟩ := u
                    refine W.widen (k := 200 + 4 * (k + 1 + 1)) (n := 4000 + 24 * (k + 1 + 1)) (by omega) (by omega) ?_
                    refine lv_bipush (v := -13) hx hb dL_law_1449 (by decide) ?_
                    refine lv_icmp_ne (tgt := 1458) hx hb dL_law_1451 (by decide) (fun c211 => ?_) (fun c211 => ?_)
                    · have hp := hp.1 c211
                      refine lv_iconst (v := 0) hx hb dL_law_1458 (by decide) ?_
                      refine lv_istore (lv' := [(13, .int (0 : Int32)), (24, .int r200), (23, .int r196), (0, .ref b), (1, .ref b0), (2, .ref (qa 0)), (3, .ref (qa 1)), (4, .ref (qa 2)), (5, .ref (qa 3)), (6, .ref (qa 4)), (7, .ref (qa 5)), (8, .ref (qa 6)), (9, .int x9), (10, .int x10), (11, .int x11), (12, .int x12), (14, .int x14), (15, .int x15), (17, .int x17), (18, .int x18), (19, .int x19), (20, .int x20), (21, .int x21), (22, .int x22)]) hx hb dL_law_1459 hl (by decide) rfl (fun ls hl => ?_)
                      rw [eV1461] at hp
                      exact hp _ _ _ hP hD hS (lv_sub hl [3, 4, 5, 6, 7, 8, 9, 10, 11, 12, 13, 14, 15, 0, 16, 17, 18, 23, 2] rfl)
                    · have hp := hp.2 c211
                      refine lv_iconst (v := 1) hx hb dL_law_1454 (by decide) ?_
                      refine lv_goto (tgt := 1459) hx hb dL_law_1455 (by decide) ?_
                      refine lv_istore (lv' := [(13, .int (1 : Int32)), (24, .int r200), (23, .int r196), (0, .ref b), (1, .ref b0), (2, .ref (qa 0)), (3, .ref (qa 1)), (4, .ref (qa 2)), (5, .ref (qa 3)), (6, .ref (qa 4)), (7, .ref (qa 5)), (8, .ref (qa 6)), (9, .int x9), (10, .int x10), (11, .int x11), (12, .int x12), (14, .int x14), (15, .int x15), (17, .int x17), (18, .int x18), (19, .int x19), (20, .int x20), (21, .int x21), (22, .int x22)]) hx hb dL_law_1459 hl (by decide) rfl (fun ls hl => ?_)
                      rw [eV1461] at hp
                      exact hp _ _ _ hP hD hS (lv_sub hl [3, 4, 5, 6, 7, 8, 9, 10, 11, 12, 13, 14, 15, 0, 16, 17, 18, 23, 2] rfl)
          · have hp := hp.2 c219
            refine lv_iload hx hb dL_law_1336 (lv_at hl 17 rfl) ?_
            refine lv_iconst (v := 4) hx hb dL_law_1338 (by decide) ?_
            refine lv_irem hx hb dL_law_1339 hp.1 ?_
            have hp := hp.2
            refine lv_topi (fun y216 ey216 => ?_)
            have hp := hp y216 ey216
            refine lv_if_ne (tgt := 1352) hx hb dL_law_1340 (by decide) (fun c218 => ?_) (fun c218 => ?_)
            · have hp := hp.1 c218
              refine lv_iconst (v := 0) hx hb dL_law_1352 (by decide) ?_
              refine lv_istore (lv' := [(25, .int (0 : Int32)), (24, .int r200), (23, .int r196), (0, .ref b), (1, .ref b0), (2, .ref (qa 0)), (3, .ref (qa 1)), (4, .ref (qa 2)), (5, .ref (qa 3)), (6, .ref (qa 4)), (7, .ref (qa 5)), (8, .ref (qa 6)), (9, .int x9), (10, .int x10), (11, .int x11), (12, .int x12), (13, .int x13), (14, .int x14), (15, .int x15), (17, .int x17), (18, .int x18), (19, .int x19), (20, .int x20), (21, .int x21), (22, .int x22)]) hx hb dL_law_1353 hl (by decide) rfl (fun ls hl => ?_)
              refine lv_iconst (v := 0) hx hb dL_law_1355 (by decide) ?_
              refine lv_istore (lv' := [(26, .int (0 : Int32)), (25, .int (0 : Int32)), (24, .int r200), (23, .int r196), (0, .ref b), (1, .ref b0), (2, .ref (qa 0)), (3, .ref (qa 1)), (4, .ref (qa 2)), (5, .ref (qa 3)), (6, .ref (qa 4)), (7, .ref (qa 5)), (8, .ref (qa 6)), (9, .int x9), (10, .int x10), (11, .int x11), (12, .int x12), (13, .int x13), (14, .int x14), (15, .int x15), (17, .int x17), (18, .int x18), (19, .int x19), (20, .int x20), (21, .int x21), (22, .int x22)]) hx hb dL_law_1356 hl (by decide) rfl (fun ls hl => ?_)
              rw [eV1358] at hp
              exact hp _ _ _ hP hD hS (lv_sub hl [4, 5, 6, 7, 8, 9, 10, 11, 12, 13, 14, 15, 16, 17, 18, 19, 20, 22, 23, 25, 3, 1, 0] rfl)
            · have hp := hp.2 c218
              refine lv_aload_n hx hb dL_law_1343 rfl (lv_at hl 3 rfl) ?_
              refine lv_iload hx hb dL_law_1344 (lv_at hl 20 rfl) ?_
              have hkb := hp.1
              have hp := hp.2
              obtain ⟨r217, hr217, hp⟩ := hp
              refine ro_V (As := [.int x19]) (rest := []) ⟨hx, hb, hml, hown, hts⟩ (cn_X4_offers l dC dI cI b0 qh qs qr gh201 gs202 gr203 x19 r217 hr217) (cwV 1 hts gL_law_X4_offers rfl rfl rfl (by decide +kernel) ⟨Nat.le_of_ble_eq_true rfl, Nat.le_of_ble_eq_true rfl⟩) (tLL hP) hK hN rfl rfl rfl rfl hl.1 (Nat.le_of_ble_eq_true rfl) ⟨by show 200 + 4 * (k + 1) ≤ 673973; omega, by show 4000 + 24 * (k + 1) ≤ 7079910; omega⟩ dL_law_1346 ?_
              refine lv_goto (tgt := 1353) hx hb dL_law_1349 (by decide) ?_
              refine lv_istore (lv' := [(25, .int r217), (24, .int r200), (23, .int r196), (0, .ref b), (1, .ref b0), (2, .ref (qa 0)), (3, .ref (qa 1)), (4, .ref (qa 2)), (5, .ref (qa 3)), (6, .ref (qa 4)), (7, .ref (qa 5)), (8, .ref (qa 6)), (9, .int x9), (10, .int x10), (11, .int x11), (12, .int x12), (13, .int x13), (14, .int x14), (15, .int x15), (17, .int x17), (18, .int x18), (19, .int x19), (20, .int x20), (21, .int x21), (22, .int x22)]) hx hb dL_law_1353 hl (by decide) rfl (fun ls hl => ?_)
              refine lv_iconst (v := 0) hx hb dL_law_1355 (by decide) ?_
              refine lv_istore (lv' := [(26, .int (0 : Int32)), (25, .int r217), (24, .int r200), (23, .int r196), (0, .ref b), (1, .ref b0), (2, .ref (qa 0)), (3, .ref (qa 1)), (4, .ref (qa 2)), (5, .ref (qa 3)), (6, .ref (qa 4)), (7, .ref (qa 5)), (8, .ref (qa 6)), (9, .int x9), (10, .int x10), (11, .int x11), (12, .int x12), (13, .int x13), (14, .int x14), (15, .int x15), (17, .int x17), (18, .int x18), (19, .int x19), (20, .int x20), (21, .int x21), (22, .int x22)]) hx hb dL_law_1356 hl (by decide) rfl (fun ls hl => ?_)
              rw [eV1358] at hp
              exact hp _ _ _ hP hD hS (lv_sub hl [4, 5, 6, 7, 8, 9, 10, 11, 12, 13, 14, 15, 16, 17, 18, 19, 20, 22, 23, 25, 3, 1, 0] rfl))
  have hp := hp (by
    intro k gh gs gr ga x9 x10 x11 x12 x13 x14 x15 x17 x19 x20 x22 x23 x25 x26 hp
    rw [eV1358]
    intro H locs ls hP hD hS hl
    refine lv_iload hx hb dL_law_1358 (lv_at hl 22 rfl) ?_
    refine lv_iload hx hb dL_law_1360 (lv_at hl 21 rfl) ?_
    refine lv_icmp_ge (tgt := 1396) hx hb dL_law_1362 (by decide) (fun c246 => ?_) (fun c246 => ?_)
    · have hp := hp.1 c246
      refine lv_goto (tgt := 1461) hx hb dL_law_1396 (by decide) ?_
      rw [eV1461] at hp
      exact hp _ _ _ hP hD hS (lv_sub hl [0, 1, 2, 3, 4, 5, 6, 7, 8, 9, 10, 11, 12, 13, 14, 15, 16, 19, 20] rfl)
    · have hp := hp.2 c246
      refine lv_iload hx hb dL_law_1365 (lv_at hl 13 rfl) ?_
      refine lv_if_eq (tgt := 1387) hx hb dL_law_1367 (by decide) (fun c245 => ?_) (fun c245 => ?_)
      · have hp := hp.1 c245
        refine lv_iconst (v := 0) hx hb dL_law_1387 (by decide) ?_
        refine lv_istore (lv' := [(13, .int (0 : Int32)), (0, .ref b), (1, .ref b0), (2, .ref (qa 0)), (3, .ref (qa 1)), (4, .ref (qa 2)), (5, .ref (qa 3)), (6, .ref (qa 4)), (7, .ref (qa 5)), (8, .ref (qa 6)), (9, .int x9), (10, .int x10), (11, .int x11), (12, .int x12), (14, .int x14), (15, .int x15), (17, .int x17), (19, .int x19), (20, .int x20), (22, .int x22), (23, .int x23), (25, .int x25), (26, .int x26)]) hx hb dL_law_1388 hl (by decide) rfl (fun ls hl => ?_)
        refine lv_iinc (v := x26 + (1 : Int32)) (lv' := [(26, .int (x26 + (1 : Int32))), (13, .int (0 : Int32)), (0, .ref b), (1, .ref b0), (2, .ref (qa 0)), (3, .ref (qa 1)), (4, .ref (qa 2)), (5, .ref (qa 3)), (6, .ref (qa 4)), (7, .ref (qa 5)), (8, .ref (qa 6)), (9, .int x9), (10, .int x10), (11, .int x11), (12, .int x12), (14, .int x14), (15, .int x15), (17, .int x17), (19, .int x19), (20, .int x20), (22, .int x22), (23, .int x23), (25, .int x25)]) hx hb dL_law_1390 hl (k := 22) rfl rfl (by decide) rfl (fun ls hl => ?_)
        refine lv_goto (tgt := 1358) hx hb dL_law_1393 (by decide) ?_
        rw [eV1358] at hp
        exact hp _ _ _ hP hD hS (lv_sub hl [2, 3, 4, 5, 6, 7, 8, 9, 10, 11, 12, 13, 14, 1, 15, 16, 17, 18, 19, 20, 21, 22, 0] rfl)
      · have hp := hp.2 c245
        refine lv_aload_n hx hb dL_law_1370 rfl (lv_at hl 1 rfl) ?_
        refine lv_iload hx hb dL_law_1371 (lv_at hl 17 rfl) ?_
        refine lv_iload hx hb dL_law_1373 (lv_at hl 22 rfl) ?_
        have hkb := hp.1
        have hp := hp.2
        obtain ⟨r243, hr243, hp⟩ := hp
        refine ro_V (As := [.int x19, .int x26]) (rest := []) ⟨hx, hb, hml, hown, hts⟩ (cn_X4_offerAt l dC dI cI b0 qh qs qr gh gs gr x19 x26 r243 hr243) (cwV 2 hts gL_law_X4_offerAt rfl rfl rfl (by decide +kernel) ⟨Nat.le_of_ble_eq_true rfl, Nat.le_of_ble_eq_true rfl⟩) (tLL hP) hK hN rfl rfl rfl rfl hl.1 (Nat.le_of_ble_eq_true rfl) ⟨by show 200 + 4 * k ≤ 673973; omega, by show 4000 + 24 * k ≤ 7079910; omega⟩ dL_law_1375 ?_
        refine lv_iload hx hb dL_law_1378 (lv_at hl 18 rfl) ?_
        refine lv_icmp_eq (tgt := 1387) hx hb dL_law_1380 (by decide) (fun c244 => ?_) (fun c244 => ?_)
        · have hp := hp.1 c244
          refine lv_iconst (v := 0) hx hb dL_law_1387 (by decide) ?_
          refine lv_istore (lv' := [(13, .int (0 : Int32)), (0, .ref b), (1, .ref b0), (2, .ref (qa 0)), (3, .ref (qa 1)), (4, .ref (qa 2)), (5, .ref (qa 3)), (6, .ref (qa 4)), (7, .ref (qa 5)), (8, .ref (qa 6)), (9, .int x9), (10, .int x10), (11, .int x11), (12, .int x12), (14, .int x14), (15, .int x15), (17, .int x17), (19, .int x19), (20, .int x20), (22, .int x22), (23, .int x23), (25, .int x25), (26, .int x26)]) hx hb dL_law_1388 hl (by decide) rfl (fun ls hl => ?_)
          refine lv_iinc (v := x26 + (1 : Int32)) (lv' := [(26, .int (x26 + (1 : Int32))), (13, .int (0 : Int32)), (0, .ref b), (1, .ref b0), (2, .ref (qa 0)), (3, .ref (qa 1)), (4, .ref (qa 2)), (5, .ref (qa 3)), (6, .ref (qa 4)), (7, .ref (qa 5)), (8, .ref (qa 6)), (9, .int x9), (10, .int x10), (11, .int x11), (12, .int x12), (14, .int x14), (15, .int x15), (17, .int x17), (19, .int x19), (20, .int x20), (22, .int x22), (23, .int x23), (25, .int x25)]) hx hb dL_law_1390 hl (k := 22) rfl rfl (by decide) rfl (fun ls hl => ?_)
          refine lv_goto (tgt := 1358) hx hb dL_law_1393 (by decide) ?_
          rw [eV1358] at hp
          exact hp _ _ _ hP hD hS (lv_sub hl [2, 3, 4, 5, 6, 7, 8, 9, 10, 11, 12, 13, 14, 1, 15, 16, 17, 18, 19, 20, 21, 22, 0] rfl)
        · have hp := hp.2 c244
          refine lv_iconst (v := 1) hx hb dL_law_1383 (by decide) ?_
          refine lv_goto (tgt := 1388) hx hb dL_law_1384 (by decide) ?_
          refine lv_istore (lv' := [(13, .int (1 : Int32)), (0, .ref b), (1, .ref b0), (2, .ref (qa 0)), (3, .ref (qa 1)), (4, .ref (qa 2)), (5, .ref (qa 3)), (6, .ref (qa 4)), (7, .ref (qa 5)), (8, .ref (qa 6)), (9, .int x9), (10, .int x10), (11, .int x11), (12, .int x12), (14, .int x14), (15, .int x15), (17, .int x17), (19, .int x19), (20, .int x20), (22, .int x22), (23, .int x23), (25, .int x25), (26, .int x26)]) hx hb dL_law_1388 hl (by decide) rfl (fun ls hl => ?_)
          refine lv_iinc (v := x26 + (1 : Int32)) (lv' := [(26, .int (x26 + (1 : Int32))), (13, .int (1 : Int32)), (0, .ref b), (1, .ref b0), (2, .ref (qa 0)), (3, .ref (qa 1)), (4, .ref (qa 2)), (5, .ref (qa 3)), (6, .ref (qa 4)), (7, .ref (qa 5)), (8, .ref (qa 6)), (9, .int x9), (10, .int x10), (11, .int x11), (12, .int x12), (14, .int x14), (15, .int x15), (17, .int x17), (19, .int x19), (20, .int x20), (22, .int x22), (23, .int x23), (25, .int x25)]) hx hb dL_law_1390 hl (k := 22) rfl rfl (by decide) rfl (fun ls hl => ?_)
          refine lv_goto (tgt := 1358) hx hb dL_law_1393 (by decide) ?_
          rw [eV1358] at hp
          exact hp _ _ _ hP hD hS (lv_sub hl [2, 3, 4, 5, 6, 7, 8, 9, 10, 11, 12, 13, 14, 1, 15, 16, 17, 18, 19, 20, 21, 22, 0] rfl))
  have hp := hp (by
    intro k gh gs gr ga x9 x10 x11 x12 x13 x14 x15 x17 x22 x23 hp
    rw [eV1461]
    intro H locs ls hP hD hS hl
    refine lv_iload hx hb dL_law_1461 (lv_at hl 13 rfl) ?_
    refine lv_if_eq (tgt := 1483) hx hb dL_law_1463 (by decide) (fun c242 => ?_) (fun c242 => ?_)
    · have hp := hp.1 c242
      refine lv_iconst (v := 0) hx hb dL_law_1483 (by decide) ?_
      refine lv_istore (lv' := [(13, .int (0 : Int32)), (0, .ref b), (1, .ref b0), (2, .ref (qa 0)), (3, .ref (qa 1)), (4, .ref (qa 2)), (5, .ref (qa 3)), (6, .ref (qa 4)), (7, .ref (qa 5)), (8, .ref (qa 6)), (9, .int x9), (10, .int x10), (11, .int x11), (12, .int x12), (14, .int x14), (15, .int x15), (17, .int x17), (22, .int x22), (23, .int x23)]) hx hb dL_law_1484 hl (by decide) rfl (fun ls hl => ?_)
      refine lv_goto (tgt := 1770) hx hb dL_law_1486 (by decide) ?_
      rw [eV1770] at hp
      exact hp _ _ _ hP hD hS (lv_sub hl [1, 2, 3, 4, 5, 6, 7, 8, 9, 10, 11, 12, 13, 0, 14, 15, 16] rfl)
    · have hp := hp.2 c242
      refine lv_aload_n hx hb dL_law_1466 rfl (lv_at hl 1 rfl) ?_
      refine lv_iload hx hb dL_law_1467 (lv_at hl 12 rfl) ?_
      refine lv_iload hx hb dL_law_1469 (lv_at hl 17 rfl) ?_
      have hkb := hp.1
      have hp := hp.2
      obtain ⟨r237, hr237, hp⟩ := hp
      refine ro_S (As := [.ref b0, .int x12, .int x22]) (rest := []) ⟨hx, hb, hml, hown, hts⟩ (c_L_pieces l dC dI cI b0 qh qs qr qa gh gs gr ga x12 x22 r237 hr237) (va_cwS 3 hts gL_law_L_pieces rfl rfl rfl (by decide +kernel) ⟨Nat.le_of_ble_eq_true rfl, Nat.le_of_ble_eq_true rfl⟩) hP hK hN rfl rfl hl.1 (Nat.le_of_ble_eq_true rfl) ⟨by show 200 + 4 * k ≤ 673973; omega, by show 4000 + 24 * k ≤ 7079910; omega⟩ dL_law_1471 ?_
      refine lv_iload hx hb dL_law_1474 (lv_at hl 18 rfl) ?_
      refine lv_icmp_ne (tgt := 1483) hx hb dL_law_1476 (by decide) (fun c241 => ?_) (fun c241 => ?_)
      · have hp := hp.1 c241
        refine lv_iconst (v := 0) hx hb dL_law_1483 (by decide) ?_
        refine lv_istore (lv' := [(13, .int (0 : Int32)), (0, .ref b), (1, .ref b0), (2, .ref (qa 0)), (3, .ref (qa 1)), (4, .ref (qa 2)), (5, .ref (qa 3)), (6, .ref (qa 4)), (7, .ref (qa 5)), (8, .ref (qa 6)), (9, .int x9), (10, .int x10), (11, .int x11), (12, .int x12), (14, .int x14), (15, .int x15), (17, .int x17), (22, .int x22), (23, .int x23)]) hx hb dL_law_1484 hl (by decide) rfl (fun ls hl => ?_)
        refine lv_goto (tgt := 1770) hx hb dL_law_1486 (by decide) ?_
        rw [eV1770] at hp
        exact hp _ _ _ hP hD hS (lv_sub hl [1, 2, 3, 4, 5, 6, 7, 8, 9, 10, 11, 12, 13, 0, 14, 15, 16] rfl)
      · have hp := hp.2 c241
        refine lv_iconst (v := 1) hx hb dL_law_1479 (by decide) ?_
        refine lv_goto (tgt := 1484) hx hb dL_law_1480 (by decide) ?_
        refine lv_istore (lv' := [(13, .int (1 : Int32)), (0, .ref b), (1, .ref b0), (2, .ref (qa 0)), (3, .ref (qa 1)), (4, .ref (qa 2)), (5, .ref (qa 3)), (6, .ref (qa 4)), (7, .ref (qa 5)), (8, .ref (qa 6)), (9, .int x9), (10, .int x10), (11, .int x11), (12, .int x12), (14, .int x14), (15, .int x15), (17, .int x17), (22, .int x22), (23, .int x23)]) hx hb dL_law_1484 hl (by decide) rfl (fun ls hl => ?_)
        refine lv_goto (tgt := 1770) hx hb dL_law_1486 (by decide) ?_
        rw [eV1770] at hp
        exact hp _ _ _ hP hD hS (lv_sub hl [1, 2, 3, 4, 5, 6, 7, 8, 9, 10, 11, 12, 13, 0, 14, 15, 16] rfl))
  have hp := hp (by
    intro k gh gs gr ga x9 x10 x11 x12 x13 x14 x15 x17 x18 x19 x21 x22 hp
    rw [eV1489]
    intro H locs ls hP hD hS hl
    refine lv_iload hx hb dL_law_1489 (lv_at hl 17 rfl) ?_
    refine lv_bipush (v := 14) hx hb dL_law_1491 (by decide) ?_
    refine lv_icmp_ge (tgt := 1672) hx hb dL_law_1493 (by decide) (fun c236 => ?_) (fun c236 => ?_)
    · have hp := hp.1 c236
      rw [eV1672] at hp
      exact hp _ _ _ hP hD hS (lv_sub hl [0, 1, 2, 3, 4, 5, 6, 7, 8, 9, 10, 11, 12, 13, 14, 15, 16, 17, 19, 20] rfl)
    · have hp := hp.2 c236
      refine lv_iload hx hb dL_law_1496 (lv_at hl 10 rfl) ?_
      refine lv_if_le (tgt := 1672) hx hb dL_law_1498 (by decide) (fun c235 => ?_) (fun c235 => ?_)
      · have hp := hp.1 c235
        rw [eV1672] at hp
        exact hp _ _ _ hP hD hS (lv_sub hl [0, 1, 2, 3, 4, 5, 6, 7, 8, 9, 10, 11, 12, 13, 14, 15, 16, 17, 19, 20] rfl)
      · have hp := hp.2 c235
        refine lv_iload hx hb dL_law_1501 (lv_at hl 16 rfl) ?_
        refine lv_bipush (v := 8) hx hb dL_law_1503 (by decide) ?_
        refine lv_ishr hx hb dL_law_1505 ?_
        refine lv_topi (fun y230 ey230 => ?_)
        have hp := hp y230 ey230
        refine lv_iconst (v := 1) hx hb dL_law_1506 (by decide) ?_
        refine lv_iand hx hb dL_law_1507 ?_
        refine lv_topi (fun y231 ey231 => ?_)
        have hp := hp y231 ey231
        refine lv_if_ne (tgt := 1515) hx hb dL_law_1508 (by decide) (fun c234 => ?_) (fun c234 => ?_)
        · have hp := hp.1 c234
          refine lv_iload hx hb dL_law_1515 (lv_at hl 16 rfl) ?_
          refine lv_bipush (v := 9) hx hb dL_law_1517 (by decide) ?_
          refine lv_ishr hx hb dL_law_1519 ?_
          refine lv_topi (fun y232 ey232 => ?_)
          have hp := hp y232 ey232
          refine lv_iconst (v := 4) hx hb dL_law_1520 (by decide) ?_
          refine lv_irem hx hb dL_law_1521 hp.1 ?_
          have hp := hp.2
          refine lv_topi (fun y233 ey233 => ?_)
          have hp := hp y233 ey233
          rw [eV1522] at hp
          exact hp _ _ _ hP hD hS (lv_sub hl [0, 1, 2, 3, 4, 5, 6, 7, 8, 9, 10, 11, 12, 14, 15, 16, 18, 20] rfl)
        · have hp := hp.2 c234
          refine lv_iconst (v := 0) hx hb dL_law_1511 (by decide) ?_
          refine lv_goto (tgt := 1522) hx hb dL_law_1512 (by decide) ?_
          rw [eV1522] at hp
          exact hp _ _ _ hP hD hS (lv_sub hl [0, 1, 2, 3, 4, 5, 6, 7, 8, 9, 10, 11, 12, 14, 15, 16, 18, 20] rfl))
  have hp := hp (by
    intro k gh gs gr ga x9 x10 x11 x12 x14 x15 x17 x19 x22 t0 hp
    rw [eV1522]
    intro H locs ls hP hD hS hl
    refine lv_istore (lv' := [(23, .int t0), (0, .ref b), (1, .ref b0), (2, .ref (qa 0)), (3, .ref (qa 1)), (4, .ref (qa 2)), (5, .ref (qa 3)), (6, .ref (qa 4)), (7, .ref (qa 5)), (8, .ref (qa 6)), (9, .int x9), (10, .int x10), (11, .int x11), (12, .int x12), (14, .int x14), (15, .int x15), (17, .int x17), (19, .int x19), (22, .int x22)]) hx hb dL_law_1522 hl (by decide) rfl (fun ls hl => ?_)
    refine lv_aload_n hx hb dL_law_1524 rfl (lv_at hl 2 rfl) ?_
    refine lv_iload hx hb dL_law_1525 (lv_at hl 17 rfl) ?_
    have hkb := hp.1
    have hp := hp.2
    obtain ⟨r274, hr274, hp⟩ := hp
    refine ro_V (As := [.int x19]) (rest := []) ⟨hx, hb, hml, hown, hts⟩ (cn_X4_copyOf l dC dI cI b0 qh qs qr gh gs gr x19 r274 hr274) (cwV 1 hts gL_law_X4_copyOf rfl rfl rfl (by decide +kernel) ⟨Nat.le_of_ble_eq_true rfl, Nat.le_of_ble_eq_true rfl⟩) (tLL hP) hK hN rfl rfl rfl rfl hl.1 (Nat.le_of_ble_eq_true rfl) ⟨by show 200 + 4 * k ≤ 673973; omega, by show 4000 + 24 * k ≤ 7079910; omega⟩ dL_law_1527 ?_
    refine lv_istore (lv' := [(21, .int r274), (23, .int t0), (0, .ref b), (1, .ref b0), (2, .ref (qa 0)), (3, .ref (qa 1)), (4, .ref (qa 2)), (5, .ref (qa 3)), (6, .ref (qa 4)), (7, .ref (qa 5)), (8, .ref (qa 6)), (9, .int x9), (10, .int x10), (11, .int x11), (12, .int x12), (14, .int x14), (15, .int x15), (17, .int x17), (19, .int x19), (22, .int x22)]) hx hb dL_law_1530 hl (by decide) rfl (fun ls hl => ?_)
    refine lv_aload_n hx hb dL_law_1532 rfl (lv_at hl 3 rfl) ?_
    refine lv_iload hx hb dL_law_1533 (lv_at hl 14 rfl) ?_
    refine lv_iload hx hb dL_law_1535 (lv_at hl 19 rfl) ?_
    have hkb := hp.1
    have hp := hp.2
    obtain ⟨r275, hr275, hp⟩ := hp
    refine ro_S (As := [.ref b0, .int x12, .int x22]) (rest := []) ⟨hx, hb, hml, hown, hts⟩ (c_L_pieces l dC dI cI b0 qh qs qr qa gh gs gr ga x12 x22 r275 hr275) (va_cwS 3 hts gL_law_L_pieces rfl rfl rfl (by decide +kernel) ⟨Nat.le_of_ble_eq_true rfl, Nat.le_of_ble_eq_true rfl⟩) hP hK hN rfl rfl hl.1 (Nat.le_of_ble_eq_true rfl) ⟨by show 200 + 4 * k ≤ 673973; omega, by show 4000 + 24 * k ≤ 7079910; omega⟩ dL_law_1537 ?_
    refine lv_istore (lv' := [(24, .int r275), (21, .int r274), (23, .int t0), (0, .ref b), (1, .ref b0), (2, .ref (qa 0)), (3, .ref (qa 1)), (4, .ref (qa 2)), (5, .ref (qa 3)), (6, .ref (qa 4)), (7, .ref (qa 5)), (8, .ref (qa 6)), (9, .int x9), (10, .int x10), (11, .int x11), (12, .int x12), (14, .int x14), (15, .int x15), (17, .int x17), (19, .int x19), (22, .int x22)]) hx hb dL_law_1540 hl (by decide) rfl (fun ls hl => ?_)
    refine lv_iload hx hb dL_law_1542 (lv_at hl 1 rfl) ?_
    refine lv_if_ge (tgt := 1551) hx hb dL_law_1544 (by decide) (fun c280 => ?_) (fun c280 => ?_)
    · have hp := hp.1 c280
      refine lv_aload_n hx hb dL_law_1551 rfl (lv_at hl 4 rfl) ?_
      refine lv_iload hx hb dL_law_1552 (lv_at hl 1 rfl) ?_
      refine lv_iload hx hb dL_law_1554 (lv_at hl 20 rfl) ?_
      have hkb := hp.1
      have hp := hp.2
      obtain ⟨r279, hr279, hp⟩ := hp
      refine ro_V (As := [.int r274, .int x22]) (rest := []) ⟨hx, hb, hml, hown, hts⟩ (cn_X4_pieces l dC dI cI b0 qh qs qr gh gs gr r274 x22 r279 hr279) (cwV 2 hts gL_law_X4_pieces rfl rfl rfl (by decide +kernel) ⟨Nat.le_of_ble_eq_true rfl, Nat.le_of_ble_eq_true rfl⟩) (tLL hP) hK hN rfl rfl rfl rfl hl.1 (Nat.le_of_ble_eq_true rfl) ⟨by show 200 + 4 * k ≤ 673973; omega, by show 4000 + 24 * k ≤ 7079910; omega⟩ dL_law_1556 ?_
      rw [eV1559] at hp
      exact hp _ _ _ hP hD hS (lv_sub hl [3, 4, 5, 6, 7, 8, 9, 10, 11, 12, 13, 14, 15, 16, 17, 18, 19, 1, 20, 2, 0] rfl)
    · have hp := hp.2 c280
      refine lv_iconst (v := 0) hx hb dL_law_1547 (by decide) ?_
      refine lv_goto (tgt := 1559) hx hb dL_law_1548 (by decide) ?_
      rw [eV1559] at hp
      exact hp _ _ _ hP hD hS (lv_sub hl [3, 4, 5, 6, 7, 8, 9, 10, 11, 12, 13, 14, 15, 16, 17, 18, 19, 1, 20, 2, 0] rfl))
  have hp := hp (by
    intro k gh gs gr ga x9 x10 x11 x12 x14 x15 x17 x19 x21 x22 x23 x24 t0 hp
    rw [eV1559]
    intro H locs ls hP hD hS hl
    refine lv_istore (lv' := [(25, .int t0), (0, .ref b), (1, .ref b0), (2, .ref (qa 0)), (3, .ref (qa 1)), (4, .ref (qa 2)), (5, .ref (qa 3)), (6, .ref (qa 4)), (7, .ref (qa 5)), (8, .ref (qa 6)), (9, .int x9), (10, .int x10), (11, .int x11), (12, .int x12), (14, .int x14), (15, .int x15), (17, .int x17), (19, .int x19), (21, .int x21), (22, .int x22), (23, .int x23), (24, .int x24)]) hx hb dL_law_1559 hl (by decide) rfl (fun ls hl => ?_)
    refine lv_aload_n hx hb dL_law_1561 rfl (lv_at hl 2 rfl) ?_
    refine lv_iconst (v := 3) hx hb dL_law_1562 (by decide) ?_
    refine lv_iload hx hb dL_law_1563 (lv_at hl 17 rfl) ?_
    refine lv_iload hx hb dL_law_1565 (lv_at hl 19 rfl) ?_
    refine lv_iload hx hb dL_law_1567 (lv_at hl 20 rfl) ?_
    have hkb := hp.1
    have hp := hp.2
    refine pw_SW (As := [.ref b0, .int (3 : Int32), .int x19, .int x22, .int x23]) (rest := []) (w1 := []) (w2 := wA qa cI ga) (wsd := fun u : St × St × St => wLL b0 qh qs qr qa cI u.1 u.2.1 u.2.2 ga) ⟨hx, hb, hml, hown, hts⟩ (c_L_on l hfl dC dI cI b0 qh qs qr gh gs gr (3 : Int32) x19 x22 x23 _ hp _) (vx_cwSW 5 hts gL_law_L_on rfl rfl rfl (by decide +kernel) ⟨Nat.le_of_ble_eq_true rfl, Nat.le_of_ble_eq_true rfl⟩) hP hD hS hA hK hN hXS hXH (wLL_eq ..) (fun u => rfl) rfl rfl hl.1 (Nat.le_of_ble_eq_true rfl) ⟨by show 200 + 4 * k + 4 ≤ 673973; omega, by show 4000 + 24 * k + 24 ≤ 7079910; omega⟩ dL_law_1569 (fun r282 u H locs hp hP hD hS => ?_)
    obtain ⟨gh283, gs284, gr285⟩ := u
    refine W.widen (k := 200 + 4 * (k + 1)) (n := 4000 + 24 * (k + 1)) (by omega) (by omega) ?_
    refine lv_istore (lv' := [(26, .int r282), (25, .int t0), (0, .ref b), (1, .ref b0), (2, .ref (qa 0)), (3, .ref (qa 1)), (4, .ref (qa 2)), (5, .ref (qa 3)), (6, .ref (qa 4)), (7, .ref (qa 5)), (8, .ref (qa 6)), (9, .int x9), (10, .int x10), (11, .int x11), (12, .int x12), (14, .int x14), (15, .int x15), (17, .int x17), (19, .int x19), (21, .int x21), (22, .int x22), (23, .int x23), (24, .int x24)]) hx hb dL_law_1572 hl (by decide) rfl (fun ls hl => ?_)
    refine lv_iload hx hb dL_law_1574 (lv_at hl 0 rfl) ?_
    refine lv_bipush (v := -13) hx hb dL_law_1576 (by decide) ?_
    refine lv_icmp_ne (tgt := 1601) hx hb dL_law_1578 (by decide) (fun c301 => ?_) (fun c301 => ?_)
    · have hp := hp.1 c301
      refine lv_iload hx hb dL_law_1601 (lv_at hl 19 rfl) ?_
      refine lv_if_lt (tgt := 1666) hx hb dL_law_1603 (by decide) (fun c298 => ?_) (fun c298 => ?_)
      · have hp := hp.1 c298
        refine lv_iconst (v := 0) hx hb dL_law_1666 (by decide) ?_
        refine lv_istore (lv' := [(13, .int (0 : Int32)), (26, .int r282), (25, .int t0), (0, .ref b), (1, .ref b0), (2, .ref (qa 0)), (3, .ref (qa 1)), (4, .ref (qa 2)), (5, .ref (qa 3)), (6, .ref (qa 4)), (7, .ref (qa 5)), (8, .ref (qa 6)), (9, .int x9), (10, .int x10), (11, .int x11), (12, .int x12), (14, .int x14), (15, .int x15), (17, .int x17), (19, .int x19), (21, .int x21), (22, .int x22), (23, .int x23), (24, .int x24)]) hx hb dL_law_1667 hl (by decide) rfl (fun ls hl => ?_)
        refine lv_goto (tgt := 1770) hx hb dL_law_1669 (by decide) ?_
        rw [eV1770] at hp
        exact hp _ _ _ hP hD hS (lv_sub hl [3, 4, 5, 6, 7, 8, 9, 10, 11, 12, 13, 14, 15, 0, 16, 17, 18] rfl)
      · have hp := hp.2 c298
        refine lv_iload hx hb dL_law_1606 (lv_at hl 0 rfl) ?_
        refine lv_if_lt (tgt := 1666) hx hb dL_law_1608 (by decide) (fun c297 => ?_) (fun c297 => ?_)
        · have hp := hp.1 c297
          refine lv_iconst (v := 0) hx hb dL_law_1666 (by decide) ?_
          refine lv_istore (lv' := [(13, .int (0 : Int32)), (26, .int r282), (25, .int t0), (0, .ref b), (1, .ref b0), (2, .ref (qa 0)), (3, .ref (qa 1)), (4, .ref (qa 2)), (5, .ref (qa 3)), (6, .ref (qa 4)), (7, .ref (qa 5)), (8, .ref (qa 6)), (9, .int x9), (10, .int x10), (11, .int x11), (12, .int x12), (14, .int x14), (15, .int x15), (17, .int x17), (19, .int x19), (21, .int x21), (22, .int x22), (23, .int x23), (24, .int x24)]) hx hb dL_law_1667 hl (by decide) rfl (fun ls hl => ?_)
          refine lv_goto (tgt := 1770) hx hb dL_law_1669 (by decide) ?_
          rw [eV1770] at hp
          exact hp _ _ _ hP hD hS (lv_sub hl [3, 4, 5, 6, 7, 8, 9, 10, 11, 12, 13, 14, 15, 0, 16, 17, 18] rfl)
        · have hp := hp.2 c297
          refine lv_aload_n hx hb dL_law_1611 rfl (lv_at hl 3 rfl) ?_
          refine lv_iload hx hb dL_law_1612 (lv_at hl 18 rfl) ?_
          have hkb := hp.1
          have hp := hp.2
          obtain ⟨r286, hr286, hp⟩ := hp
          refine ro_V (As := [.int x19]) (rest := []) ⟨hx, hb, hml, hown, hts⟩ (cn_X4_copyOf l dC dI cI b0 qh qs qr gh283 gs284 gr285 x19 r286 hr286) (cwV 1 hts gL_law_X4_copyOf rfl rfl rfl (by decide +kernel) ⟨Nat.le_of_ble_eq_true rfl, Nat.le_of_ble_eq_true rfl⟩) (tLL hP) hK hN rfl rfl rfl rfl hl.1 (Nat.le_of_ble_eq_true rfl) ⟨by show 200 + 4 * (k + 1) ≤ 673973; omega, by show 4000 + 24 * (k + 1) ≤ 7079910; omega⟩ dL_law_1614 ?_
          refine lv_iconst (v := -1) hx hb dL_law_1617 (by decide) ?_
          refine lv_icmp_ne (tgt := 1666) hx hb dL_law_1618 (by decide) (fun c296 => ?_) (fun c296 => ?_)
          · have hp := hp.1 c296
            refine lv_iconst (v := 0) hx hb dL_law_1666 (by decide) ?_
            refine lv_istore (lv' := [(13, .int (0 : Int32)), (26, .int r282), (25, .int t0), (0, .ref b), (1, .ref b0), (2, .ref (qa 0)), (3, .ref (qa 1)), (4, .ref (qa 2)), (5, .ref (qa 3)), (6, .ref (qa 4)), (7, .ref (qa 5)), (8, .ref (qa 6)), (9, .int x9), (10, .int x10), (11, .int x11), (12, .int x12), (14, .int x14), (15, .int x15), (17, .int x17), (19, .int x19), (21, .int x21), (22, .int x22), (23, .int x23), (24, .int x24)]) hx hb dL_law_1667 hl (by decide) rfl (fun ls hl => ?_)
            refine lv_goto (tgt := 1770) hx hb dL_law_1669 (by decide) ?_
            rw [eV1770] at hp
            exact hp _ _ _ hP hD hS (lv_sub hl [3, 4, 5, 6, 7, 8, 9, 10, 11, 12, 13, 14, 15, 0, 16, 17, 18] rfl)
          · have hp := hp.2 c296
            refine lv_aload_n hx hb dL_law_1621 rfl (lv_at hl 3 rfl) ?_
            refine lv_iload hx hb dL_law_1622 (lv_at hl 19 rfl) ?_
            have hkb := hp.1
            have hp := hp.2
            obtain ⟨r287, hr287, hp⟩ := hp
            refine ro_V (As := [.int x21]) (rest := []) ⟨hx, hb, hml, hown, hts⟩ (cn_X4_stateOf l dC dI cI b0 qh qs qr gh283 gs284 gr285 x21 r287 hr287) (cwV 1 hts gL_law_X4_stateOf rfl rfl rfl (by decide +kernel) ⟨Nat.le_of_ble_eq_true rfl, Nat.le_of_ble_eq_true rfl⟩) (tLL hP) hK hN rfl rfl rfl rfl hl.1 (Nat.le_of_ble_eq_true rfl) ⟨by show 200 + 4 * (k + 1) ≤ 673973; omega, by show 4000 + 24 * (k + 1) ≤ 7079910; omega⟩ dL_law_1624 ?_
            refine lv_if_ne (tgt := 1666) hx hb dL_law_1627 (by decide) (fun c295 => ?_) (fun c295 => ?_)
            · have hp := hp.1 c295
              refine lv_iconst (v := 0) hx hb dL_law_1666 (by decide) ?_
              refine lv_istore (lv' := [(13, .int (0 : Int32)), (26, .int r282), (25, .int t0), (0, .ref b), (1, .ref b0), (2, .ref (qa 0)), (3, .ref (qa 1)), (4, .ref (qa 2)), (5, .ref (qa 3)), (6, .ref (qa 4)), (7, .ref (qa 5)), (8, .ref (qa 6)), (9, .int x9), (10, .int x10), (11, .int x11), (12, .int x12), (14, .int x14), (15, .int x15), (17, .int x17), (19, .int x19), (21, .int x21), (22, .int x22), (23, .int x23), (24, .int x24)]) hx hb dL_law_1667 hl (by decide) rfl (fun ls hl => ?_)
              refine lv_goto (tgt := 1770) hx hb dL_law_1669 (by decide) ?_
              rw [eV1770] at hp
              exact hp _ _ _ hP hD hS (lv_sub hl [3, 4, 5, 6, 7, 8, 9, 10, 11, 12, 13, 14, 15, 0, 16, 17, 18] rfl)
            · have hp := hp.2 c295
              refine lv_aload_n hx hb dL_law_1630 rfl (lv_at hl 3 rfl) ?_
              refine lv_iload hx hb dL_law_1631 (lv_at hl 14 rfl) ?_
              refine lv_iload hx hb dL_law_1633 (lv_at hl 20 rfl) ?_
              have hkb := hp.1
              have hp := hp.2
              obtain ⟨r288, hr288, hp⟩ := hp
              refine ro_S (As := [.ref b0, .int x12, .int x22]) (rest := []) ⟨hx, hb, hml, hown, hts⟩ (c_L_pieces l dC dI cI b0 qh qs qr qa gh283 gs284 gr285 ga x12 x22 r288 hr288) (va_cwS 3 hts gL_law_L_pieces rfl rfl rfl (by decide +kernel) ⟨Nat.le_of_ble_eq_true rfl, Nat.le_of_ble_eq_true rfl⟩) hP hK hN rfl rfl hl.1 (Nat.le_of_ble_eq_true rfl) ⟨by show 200 + 4 * (k + 1) ≤ 673973; omega, by show 4000 + 24 * (k + 1) ≤ 7079910; omega⟩ dL_law_1635 ?_
              refine lv_iload hx hb dL_law_1638 (lv_at hl 22 rfl) ?_
              refine lv_iload hx hb dL_law_1640 (lv_at hl 21 rfl) ?_
              refine lv_isub hx hb dL_law_1642 ?_
              refine lv_icmp_ne (tgt := 1666) hx hb dL_law_1643 (by decide) (fun c294 => ?_) (fun c294 => ?_)
              · have hp := hp.1 c294
                refine lv_iconst (v := 0) hx hb dL_law_1666 (by decide) ?_
                refine lv_istore (lv' := [(13, .int (0 : Int32)), (26, .int r282), (25, .int t0), (0, .ref b), (1, .ref b0), (2, .ref (qa 0)), (3, .ref (qa 1)), (4, .ref (qa 2)), (5, .ref (qa 3)), (6, .ref (qa 4)), (7, .ref (qa 5)), (8, .ref (qa 6)), (9, .int x9), (10, .int x10), (11, .int x11), (12, .int x12), (14, .int x14), (15, .int x15), (17, .int x17), (19, .int x19), (21, .int x21), (22, .int x22), (23, .int x23), (24, .int x24)]) hx hb dL_law_1667 hl (by decide) rfl (fun ls hl => ?_)
                refine lv_goto (tgt := 1770) hx hb dL_law_1669 (by decide) ?_
                rw [eV1770] at hp
                exact hp _ _ _ hP hD hS (lv_sub hl [3, 4, 5, 6, 7, 8, 9, 10, 11, 12, 13, 14, 15, 0, 16, 17, 18] rfl)
              · have hp := hp.2 c294
                refine lv_aload_n hx hb dL_law_1646 rfl (lv_at hl 3 rfl) ?_
                refine lv_iload hx hb dL_law_1647 (lv_at hl 19 rfl) ?_
                refine lv_iload hx hb dL_law_1649 (lv_at hl 20 rfl) ?_
                have hkb := hp.1
                have hp := hp.2
                obtain ⟨r292, hr292, hp⟩ := hp
                refine ro_V (As := [.int x21, .int x22]) (rest := []) ⟨hx, hb, hml, hown, hts⟩ (cn_X4_pieces l dC dI cI b0 qh qs qr gh283 gs284 gr285 x21 x22 r292 hr292) (cwV 2 hts gL_law_X4_pieces rfl rfl rfl (by decide +kernel) ⟨Nat.le_of_ble_eq_true rfl, Nat.le_of_ble_eq_true rfl⟩) (tLL hP) hK hN rfl rfl rfl rfl hl.1 (Nat.le_of_ble_eq_true rfl) ⟨by show 200 + 4 * (k + 1) ≤ 673973; omega, by show 4000 + 24 * (k + 1) ≤ 7079910; omega⟩ dL_law_1651 ?_
                refine lv_iload hx hb dL_law_1654 (lv_at hl 1 rfl) ?_
                refine lv_iload hx hb dL_law_1656 (lv_at hl 21 rfl) ?_
                refine lv_isub hx hb dL_law_1658 ?_
                refine lv_icmp_gt (tgt := 1666) hx hb dL_law_1659 (by decide) (fun c293 => ?_) (fun c293 => ?_)
                · have hp := hp.1 c293
                  refine lv_iconst (v := 0) hx hb dL_law_1666 (by decide) ?_
                  refine lv_istore (lv' := [(13, .int (0 : Int32)), (26, .int r282), (25, .int t0), (0, .ref b), (1, .ref b0), (2, .ref (qa 0)), (3, .ref (qa 1)), (4, .ref (qa 2)), (5, .ref (qa 3)), (6, .ref (qa 4)), (7, .ref (qa 5)), (8, .ref (qa 6)), (9, .int x9), (10, .int x10), (11, .int x11), (12, .int x12), (14, .int x14), (15, .int x15), (17, .int x17), (19, .int x19), (21, .int x21), (22, .int x22), (23, .int x23), (24, .int x24)]) hx hb dL_law_1667 hl (by decide) rfl (fun ls hl => ?_)
                  refine lv_goto (tgt := 1770) hx hb dL_law_1669 (by decide) ?_
                  rw [eV1770] at hp
                  exact hp _ _ _ hP hD hS (lv_sub hl [3, 4, 5, 6, 7, 8, 9, 10, 11, 12, 13, 14, 15, 0, 16, 17, 18] rfl)
                · have hp := hp.2 c293
                  refine lv_iconst (v := 1) hx hb dL_law_1662 (by decide) ?_
                  refine lv_goto (tgt := 1667) hx hb dL_law_1663 (by decide) ?_
                  refine lv_istore (lv' := [(13, .int (1 : Int32)), (26, .int r282), (25, .int t0), (0, .ref b), (1, .ref b0), (2, .ref (qa 0)), (3, .ref (qa 1)), (4, .ref (qa 2)), (5, .ref (qa 3)), (6, .ref (qa 4)), (7, .ref (qa 5)), (8, .ref (qa 6)), (9, .int x9), (10, .int x10), (11, .int x11), (12, .int x12), (14, .int x14), (15, .int x15), (17, .int x17), (19, .int x19), (21, .int x21), (22, .int x22), (23, .int x23), (24, .int x24)]) hx hb dL_law_1667 hl (by decide) rfl (fun ls hl => ?_)
                  refine lv_goto (tgt := 1770) hx hb dL_law_1669 (by decide) ?_
                  rw [eV1770] at hp
                  exact hp _ _ _ hP hD hS (lv_sub hl [3, 4, 5, 6, 7, 8, 9, 10, 11, 12, 13, 14, 15, 0, 16, 17, 18] rfl)
    · have hp := hp.2 c301
      refine lv_iload hx hb dL_law_1581 (lv_at hl 19 rfl) ?_
      refine lv_if_lt (tgt := 1593) hx hb dL_law_1583 (by decide) (fun c300 => ?_) (fun c300 => ?_)
      · have hp := hp.1 c300
        refine lv_iconst (v := 1) hx hb dL_law_1593 (by decide) ?_
        refine lv_goto (tgt := 1667) hx hb dL_law_1594 (by decide) ?_
        refine lv_istore (lv' := [(13, .int (1 : Int32)), (26, .int r282), (25, .int t0), (0, .ref b), (1, .ref b0), (2, .ref (qa 0)), (3, .ref (qa 1)), (4, .ref (qa 2)), (5, .ref (qa 3)), (6, .ref (qa 4)), (7, .ref (qa 5)), (8, .ref (qa 6)), (9, .int x9), (10, .int x10), (11, .int x11), (12, .int x12), (14, .int x14), (15, .int x15), (17, .int x17), (19, .int x19), (21, .int x21), (22, .int x22), (23, .int x23), (24, .int x24)]) hx hb dL_law_1667 hl (by decide) rfl (fun ls hl => ?_)
        refine lv_goto (tgt := 1770) hx hb dL_law_1669 (by decide) ?_
        rw [eV1770] at hp
        exact hp _ _ _ hP hD hS (lv_sub hl [3, 4, 5, 6, 7, 8, 9, 10, 11, 12, 13, 14, 15, 0, 16, 17, 18] rfl)
      · have hp := hp.2 c300
        refine lv_iload hx hb dL_law_1586 (lv_at hl 1 rfl) ?_
        refine lv_iload hx hb dL_law_1588 (lv_at hl 21 rfl) ?_
        refine lv_icmp_ge (tgt := 1597) hx hb dL_law_1590 (by decide) (fun c299 => ?_) (fun c299 => ?_)
        · have hp := hp.1 c299
          refine lv_iconst (v := 0) hx hb dL_law_1597 (by decide) ?_
          refine lv_goto (tgt := 1667) hx hb dL_law_1598 (by decide) ?_
          refine lv_istore (lv' := [(13, .int (0 : Int32)), (26, .int r282), (25, .int t0), (0, .ref b), (1, .ref b0), (2, .ref (qa 0)), (3, .ref (qa 1)), (4, .ref (qa 2)), (5, .ref (qa 3)), (6, .ref (qa 4)), (7, .ref (qa 5)), (8, .ref (qa 6)), (9, .int x9), (10, .int x10), (11, .int x11), (12, .int x12), (14, .int x14), (15, .int x15), (17, .int x17), (19, .int x19), (21, .int x21), (22, .int x22), (23, .int x23), (24, .int x24)]) hx hb dL_law_1667 hl (by decide) rfl (fun ls hl => ?_)
          refine lv_goto (tgt := 1770) hx hb dL_law_1669 (by decide) ?_
          rw [eV1770] at hp
          exact hp _ _ _ hP hD hS (lv_sub hl [3, 4, 5, 6, 7, 8, 9, 10, 11, 12, 13, 14, 15, 0, 16, 17, 18] rfl)
        · have hp := hp.2 c299
          refine lv_iconst (v := 1) hx hb dL_law_1593 (by decide) ?_
          refine lv_goto (tgt := 1667) hx hb dL_law_1594 (by decide) ?_
          refine lv_istore (lv' := [(13, .int (1 : Int32)), (26, .int r282), (25, .int t0), (0, .ref b), (1, .ref b0), (2, .ref (qa 0)), (3, .ref (qa 1)), (4, .ref (qa 2)), (5, .ref (qa 3)), (6, .ref (qa 4)), (7, .ref (qa 5)), (8, .ref (qa 6)), (9, .int x9), (10, .int x10), (11, .int x11), (12, .int x12), (14, .int x14), (15, .int x15), (17, .int x17), (19, .int x19), (21, .int x21), (22, .int x22), (23, .int x23), (24, .int x24)]) hx hb dL_law_1667 hl (by decide) rfl (fun ls hl => ?_)
          refine lv_goto (tgt := 1770) hx hb dL_law_1669 (by decide) ?_
          rw [eV1770] at hp
          exact hp _ _ _ hP hD hS (lv_sub hl [3, 4, 5, 6, 7, 8, 9, 10, 11, 12, 13, 14, 15, 0, 16, 17, 18] rfl))
  have hp := hp (by
    intro k gh gs gr ga x9 x10 x11 x12 x13 x14 x15 x17 x18 x21 x22 hp
    rw [eV1672]
    intro H locs ls hP hD hS hl
    refine lv_iload hx hb dL_law_1672 (lv_at hl 17 rfl) ?_
    refine lv_bipush (v := 14) hx hb dL_law_1674 (by decide) ?_
    refine lv_icmp_ne (tgt := 1770) hx hb dL_law_1676 (by decide) (fun c273 => ?_) (fun c273 => ?_)
    · have hp := hp.1 c273
      rw [eV1770] at hp
      exact hp _ _ _ hP hD hS (lv_sub hl [0, 1, 2, 3, 4, 5, 6, 7, 8, 9, 10, 11, 12, 13, 14, 15, 16] rfl)
    · have hp := hp.2 c273
      refine lv_iload hx hb dL_law_1679 (lv_at hl 12 rfl) ?_
      refine lv_if_le (tgt := 1770) hx hb dL_law_1681 (by decide) (fun c272 => ?_) (fun c272 => ?_)
      · have hp := hp.1 c272
        rw [eV1770] at hp
        exact hp _ _ _ hP hD hS (lv_sub hl [0, 1, 2, 3, 4, 5, 6, 7, 8, 9, 10, 11, 12, 13, 14, 15, 16] rfl)
      · have hp := hp.2 c272
        refine lv_iconst (v := 1) hx hb dL_law_1684 (by decide) ?_
        refine lv_iload hx hb dL_law_1685 (lv_at hl 16 rfl) ?_
        refine lv_bipush (v := 8) hx hb dL_law_1687 (by decide) ?_
        refine lv_ishr hx hb dL_law_1689 ?_
        refine lv_topi (fun y259 ey259 => ?_)
        have hp := hp y259 ey259
        refine lv_iconst (v := 3) hx hb dL_law_1690 (by decide) ?_
        refine lv_irem hx hb dL_law_1691 hp.1 ?_
        have hp := hp.2
        refine lv_topi (fun y260 ey260 => ?_)
        have hp := hp y260 ey260
        refine lv_iadd hx hb dL_law_1692 ?_
        refine lv_istore (lv' := [(23, .int ((1 : Int32) + y260)), (0, .ref b), (1, .ref b0), (2, .ref (qa 0)), (3, .ref (qa 1)), (4, .ref (qa 2)), (5, .ref (qa 3)), (6, .ref (qa 4)), (7, .ref (qa 5)), (8, .ref (qa 6)), (9, .int x9), (10, .int x10), (11, .int x11), (12, .int x12), (13, .int x13), (14, .int x14), (15, .int x15), (17, .int x17), (18, .int x18), (21, .int x21), (22, .int x22)]) hx hb dL_law_1693 hl (by decide) rfl (fun ls hl => ?_)
        refine lv_aload_n hx hb dL_law_1695 rfl (lv_at hl 2 rfl) ?_
        refine lv_iload hx hb dL_law_1696 (lv_at hl 19 rfl) ?_
        refine lv_iload hx hb dL_law_1698 (lv_at hl 20 rfl) ?_
        have hkb := hp.1
        have hp := hp.2
        obtain ⟨r261, hr261, hp⟩ := hp
        refine ro_V (As := [.int x21, .int x22]) (rest := []) ⟨hx, hb, hml, hown, hts⟩ (cn_X4_pieces l dC dI cI b0 qh qs qr gh gs gr x21 x22 r261 hr261) (cwV 2 hts gL_law_X4_pieces rfl rfl rfl (by decide +kernel) ⟨Nat.le_of_ble_eq_true rfl, Nat.le_of_ble_eq_true rfl⟩) (tLL hP) hK hN rfl rfl rfl rfl hl.1 (Nat.le_of_ble_eq_true rfl) ⟨by show 200 + 4 * k ≤ 673973; omega, by show 4000 + 24 * k ≤ 7079910; omega⟩ dL_law_1700 ?_
        refine lv_istore (lv' := [(24, .int r261), (23, .int ((1 : Int32) + y260)), (0, .ref b), (1, .ref b0), (2, .ref (qa 0)), (3, .ref (qa 1)), (4, .ref (qa 2)), (5, .ref (qa 3)), (6, .ref (qa 4)), (7, .ref (qa 5)), (8, .ref (qa 6)), (9, .int x9), (10, .int x10), (11, .int x11), (12, .int x12), (13, .int x13), (14, .int x14), (15, .int x15), (17, .int x17), (18, .int x18), (21, .int x21), (22, .int x22)]) hx hb dL_law_1703 hl (by decide) rfl (fun ls hl => ?_)
        refine lv_aload_n hx hb dL_law_1705 rfl (lv_at hl 3 rfl) ?_
        refine lv_iconst (v := 4) hx hb dL_law_1706 (by decide) ?_
        refine lv_iload hx hb dL_law_1707 (lv_at hl 20 rfl) ?_
        refine lv_iload hx hb dL_law_1709 (lv_at hl 21 rfl) ?_
        refine lv_iload hx hb dL_law_1711 (lv_at hl 1 rfl) ?_
        have hkb := hp.1
        have hp := hp.2
        refine pw_SW (As := [.ref b0, .int (4 : Int32), .int x21, .int x22, .int ((1 : Int32) + y260)]) (rest := []) (w1 := []) (w2 := wA qa cI ga) (wsd := fun u : St × St × St => wLL b0 qh qs qr qa cI u.1 u.2.1 u.2.2 ga) ⟨hx, hb, hml, hown, hts⟩ (c_L_on l hfl dC dI cI b0 qh qs qr gh gs gr (4 : Int32) x21 x22 ((1 : Int32) + y260) _ hp _) (vx_cwSW 5 hts gL_law_L_on rfl rfl rfl (by decide +kernel) ⟨Nat.le_of_ble_eq_true rfl, Nat.le_of_ble_eq_true rfl⟩) hP hD hS hA hK hN hXS hXH (wLL_eq ..) (fun u => rfl) rfl rfl hl.1 (Nat.le_of_ble_eq_true rfl) ⟨by show 200 + 4 * k + 4 ≤ 673973; omega, by show 4000 + 24 * k + 24 ≤ 7079910; omega⟩ dL_law_1713 (fun r262 u H locs hp hP hD hS => ?_)
        obtain ⟨gh263, gs264, gr265⟩ := u
        refine W.widen (k := 200 + 4 * (k + 1)) (n := 4000 + 24 * (k + 1)) (by omega) (by omega) ?_
        refine lv_istore (lv' := [(25, .int r262), (24, .int r261), (23, .int ((1 : Int32) + y260)), (0, .ref b), (1, .ref b0), (2, .ref (qa 0)), (3, .ref (qa 1)), (4, .ref (qa 2)), (5, .ref (qa 3)), (6, .ref (qa 4)), (7, .ref (qa 5)), (8, .ref (qa 6)), (9, .int x9), (10, .int x10), (11, .int x11), (12, .int x12), (13, .int x13), (14, .int x14), (15, .int x15), (17, .int x17), (18, .int x18), (21, .int x21), (22, .int x22)]) hx hb dL_law_1716 hl (by decide) rfl (fun ls hl => ?_)
        refine lv_iload hx hb dL_law_1718 (lv_at hl 0 rfl) ?_
        refine lv_aload_n hx hb dL_law_1720 rfl (lv_at hl 4 rfl) ?_
        refine lv_iload hx hb dL_law_1721 (lv_at hl 21 rfl) ?_
        have hkb := hp.1
        have hp := hp.2
        obtain ⟨r266, hr266, hp⟩ := hp
        refine ro_V (As := [.int x21]) (rest := [.int r262]) ⟨hx, hb, hml, hown, hts⟩ (cn_X4_stateOf l dC dI cI b0 qh qs qr gh263 gs264 gr265 x21 r266 hr266) (cwV 1 hts gL_law_X4_stateOf rfl rfl rfl (by decide +kernel) ⟨Nat.le_of_ble_eq_true rfl, Nat.le_of_ble_eq_true rfl⟩) (tLL hP) hK hN rfl rfl rfl rfl hl.1 (Nat.le_of_ble_eq_true rfl) ⟨by show 200 + 4 * (k + 1) ≤ 673973; omega, by show 4000 + 24 * (k + 1) ≤ 7079910; omega⟩ dL_law_1723 ?_
        refine lv_if_ne (tgt := 1758) hx hb dL_law_1726 (by decide) (fun c271 => ?_) (fun c271 => ?_)
        · have hp := hp.1 c271
          refine lv_bipush (v := -13) hx hb dL_law_1758 (by decide) ?_
          refine lv_icmp_ne (tgt := 1767) hx hb dL_law_1760 (by decide) (fun c267 => ?_) (fun c267 => ?_)
          · have hp := hp.1 c267
            refine lv_iconst (v := 0) hx hb dL_law_1767 (by decide) ?_
            refine lv_istore (lv' := [(13, .int (0 : Int32)), (25, .int r262), (24, .int r261), (23, .int ((1 : Int32) + y260)), (0, .ref b), (1, .ref b0), (2, .ref (qa 0)), (3, .ref (qa 1)), (4, .ref (qa 2)), (5, .ref (qa 3)), (6, .ref (qa 4)), (7, .ref (qa 5)), (8, .ref (qa 6)), (9, .int x9), (10, .int x10), (11, .int x11), (12, .int x12), (14, .int x14), (15, .int x15), (17, .int x17), (18, .int x18), (21, .int x21), (22, .int x22)]) hx hb dL_law_1768 hl (by decide) rfl (fun ls hl => ?_)
            rw [eV1770] at hp
            exact hp _ _ _ hP hD hS (lv_sub hl [4, 5, 6, 7, 8, 9, 10, 11, 12, 13, 14, 15, 16, 0, 17, 18, 19] rfl)
          · have hp := hp.2 c267
            refine lv_iconst (v := 1) hx hb dL_law_1763 (by decide) ?_
            refine lv_goto (tgt := 1768) hx hb dL_law_1764 (by decide) ?_
            refine lv_istore (lv' := [(13, .int (1 : Int32)), (25, .int r262), (24, .int r261), (23, .int ((1 : Int32) + y260)), (0, .ref b), (1, .ref b0), (2, .ref (qa 0)), (3, .ref (qa 1)), (4, .ref (qa 2)), (5, .ref (qa 3)), (6, .ref (qa 4)), (7, .ref (qa 5)), (8, .ref (qa 6)), (9, .int x9), (10, .int x10), (11, .int x11), (12, .int x12), (14, .int x14), (15, .int x15), (17, .int x17), (18, .int x18), (21, .int x21), (22, .int x22)]) hx hb dL_law_1768 hl (by decide) rfl (fun ls hl => ?_)
            rw [eV1770] at hp
            exact hp _ _ _ hP hD hS (lv_sub hl [4, 5, 6, 7, 8, 9, 10, 11, 12, 13, 14, 15, 16, 0, 17, 18, 19] rfl)
        · have hp := hp.2 c271
          refine lv_iload hx hb dL_law_1729 (lv_at hl 1 rfl) ?_
          refine lv_iload hx hb dL_law_1731 (lv_at hl 2 rfl) ?_
          refine lv_iadd hx hb dL_law_1733 ?_
          refine lv_aload hx hb dL_law_1734 (lv_at hl 9 rfl) ?_
          refine lv_iconst (v := 4) hx hb dL_law_1736 (by decide) ?_
          refine lv_aload hx hb dL_law_1737 (lv_at hl 8 rfl) ?_
          refine lv_iload hx hb dL_law_1739 (lv_at hl 21 rfl) ?_
          refine va_iald hx hb hK hP 47 0 rfl rfl hp.1 dL_law_1741 ?_
          have hp := hp.2
          refine lv_imul hx hb dL_law_1742 ?_
          refine lv_iload hx hb dL_law_1743 (lv_at hl 22 rfl) ?_
          refine lv_iadd hx hb dL_law_1745 ?_
          refine va_iald hx hb hK hP 48 0 rfl rfl hp.1 dL_law_1746 ?_
          have hp := hp.2
          refine lv_icmp_gt (tgt := 1758) hx hb dL_law_1747 (by decide) (fun c270 => ?_) (fun c270 => ?_)
          · have hp := hp.1 c270
            refine lv_bipush (v := -13) hx hb dL_law_1758 (by decide) ?_
            refine lv_icmp_ne (tgt := 1767) hx hb dL_law_1760 (by decide) (fun c268 => ?_) (fun c268 => ?_)
            · have hp := hp.1 c268
              refine lv_iconst (v := 0) hx hb dL_law_1767 (by decide) ?_
              refine lv_istore (lv' := [(13, .int (0 : Int32)), (25, .int r262), (24, .int r261), (23, .int ((1 : Int32) + y260)), (0, .ref b), (1, .ref b0), (2, .ref (qa 0)), (3, .ref (qa 1)), (4, .ref (qa 2)), (5, .ref (qa 3)), (6, .ref (qa 4)), (7, .ref (qa 5)), (8, .ref (qa 6)), (9, .int x9), (10, .int x10), (11, .int x11), (12, .int x12), (14, .int x14), (15, .int x15), (17, .int x17), (18, .int x18), (21, .int x21), (22, .int x22)]) hx hb dL_law_1768 hl (by decide) rfl (fun ls hl => ?_)
              rw [eV1770] at hp
              exact hp _ _ _ hP hD hS (lv_sub hl [4, 5, 6, 7, 8, 9, 10, 11, 12, 13, 14, 15, 16, 0, 17, 18, 19] rfl)
            · have hp := hp.2 c268
              refine lv_iconst (v := 1) hx hb dL_law_1763 (by decide) ?_
              refine lv_goto (tgt := 1768) hx hb dL_law_1764 (by decide) ?_
              refine lv_istore (lv' := [(13, .int (1 : Int32)), (25, .int r262), (24, .int r261), (23, .int ((1 : Int32) + y260)), (0, .ref b), (1, .ref b0), (2, .ref (qa 0)), (3, .ref (qa 1)), (4, .ref (qa 2)), (5, .ref (qa 3)), (6, .ref (qa 4)), (7, .ref (qa 5)), (8, .ref (qa 6)), (9, .int x9), (10, .int x10), (11, .int x11), (12, .int x12), (14, .int x14), (15, .int x15), (17, .int x17), (18, .int x18), (21, .int x21), (22, .int x22)]) hx hb dL_law_1768 hl (by decide) rfl (fun ls hl => ?_)
              rw [eV1770] at hp
              exact hp _ _ _ hP hD hS (lv_sub hl [4, 5, 6, 7, 8, 9, 10, 11, 12, 13, 14, 15, 16, 0, 17, 18, 19] rfl)
          · have hp := hp.2 c270
            refine lv_iload hx hb dL_law_1750 (lv_at hl 1 rfl) ?_
            refine lv_iload hx hb dL_law_1752 (lv_at hl 2 rfl) ?_
            refine lv_iadd hx hb dL_law_1754 ?_
            refine lv_goto (tgt := 1760) hx hb dL_law_1755 (by decide) ?_
            refine lv_icmp_ne (tgt := 1767) hx hb dL_law_1760 (by decide) (fun c269 => ?_) (fun c269 => ?_)
            · have hp := hp.1 c269
              refine lv_iconst (v := 0) hx hb dL_law_1767 (by decide) ?_
              refine lv_istore (lv' := [(13, .int (0 : Int32)), (25, .int r262), (24, .int r261), (23, .int ((1 : Int32) + y260)), (0, .ref b), (1, .ref b0), (2, .ref (qa 0)), (3, .ref (qa 1)), (4, .ref (qa 2)), (5, .ref (qa 3)), (6, .ref (qa 4)), (7, .ref (qa 5)), (8, .ref (qa 6)), (9, .int x9), (10, .int x10), (11, .int x11), (12, .int x12), (14, .int x14), (15, .int x15), (17, .int x17), (18, .int x18), (21, .int x21), (22, .int x22)]) hx hb dL_law_1768 hl (by decide) rfl (fun ls hl => ?_)
              rw [eV1770] at hp
              exact hp _ _ _ hP hD hS (lv_sub hl [4, 5, 6, 7, 8, 9, 10, 11, 12, 13, 14, 15, 16, 0, 17, 18, 19] rfl)
            · have hp := hp.2 c269
              refine lv_iconst (v := 1) hx hb dL_law_1763 (by decide) ?_
              refine lv_goto (tgt := 1768) hx hb dL_law_1764 (by decide) ?_
              refine lv_istore (lv' := [(13, .int (1 : Int32)), (25, .int r262), (24, .int r261), (23, .int ((1 : Int32) + y260)), (0, .ref b), (1, .ref b0), (2, .ref (qa 0)), (3, .ref (qa 1)), (4, .ref (qa 2)), (5, .ref (qa 3)), (6, .ref (qa 4)), (7, .ref (qa 5)), (8, .ref (qa 6)), (9, .int x9), (10, .int x10), (11, .int x11), (12, .int x12), (14, .int x14), (15, .int x15), (17, .int x17), (18, .int x18), (21, .int x21), (22, .int x22)]) hx hb dL_law_1768 hl (by decide) rfl (fun ls hl => ?_)
              rw [eV1770] at hp
              exact hp _ _ _ hP hD hS (lv_sub hl [4, 5, 6, 7, 8, 9, 10, 11, 12, 13, 14, 15, 16, 0, 17, 18, 19] rfl))
  have hp := hp (by
    intro k gh gs gr ga x9 x10 x11 x12 x13 x14 x15 x17 hp
    rw [eV1770]
    intro H locs ls hP hD hS hl
    refine lv_iload hx hb dL_law_1770 (lv_at hl 13 rfl) ?_
    refine lv_if_eq (tgt := 1836) hx hb dL_law_1772 (by decide) (fun c78 => ?_) (fun c78 => ?_)
    · have hp := hp.1 c78
      rw [eV1836] at hp
      exact hp _ _ _ hP hD hS (lv_sub hl [0, 1, 2, 3, 4, 5, 6, 7, 8, 9, 10, 11, 12, 14, 15, 16] rfl)
    · have hp := hp.2 c78
      refine lv_iload hx hb dL_law_1775 (lv_at hl 15 rfl) ?_
      refine lv_iconst (v := 3) hx hb dL_law_1777 (by decide) ?_
      refine lv_irem hx hb dL_law_1778 hp.1 ?_
      have hp := hp.2
      refine lv_topi (fun y71 ey71 => ?_)
      have hp := hp y71 ey71
      refine lv_if_gt (tgt := 1795) hx hb dL_law_1779 (by decide) (fun c77 => ?_) (fun c77 => ?_)
      · have hp := hp.1 c77
        rw [eV1795] at hp
        exact hp _ _ _ hP hD hS (lv_sub hl [0, 1, 2, 3, 4, 5, 6, 7, 8, 9, 10, 11, 12, 14, 15, 16] rfl)
      · have hp := hp.2 c77
        refine lv_aload_n hx hb dL_law_1782 rfl (lv_at hl 1 rfl) ?_
        refine lv_aload_n hx hb dL_law_1783 rfl (lv_at hl 2 rfl) ?_
        refine lv_aload_n hx hb dL_law_1784 rfl (lv_at hl 3 rfl) ?_
        refine lv_aload hx hb dL_law_1785 (lv_at hl 4 rfl) ?_
        refine lv_iload hx hb dL_law_1787 (lv_at hl 10 rfl) ?_
        have hkb := hp.1
        have hp := hp.2
        refine pw_S (As := [.ref b0, .ref (qa 0), .ref (qa 1), .ref (qa 2), .int x10]) (rest := []) (w1 := []) (w2 := []) (wsd := fun u : St × St × St => wLL b0 qh qs qr qa cI u.1 u.2.1 u.2.2 ga) ⟨hx, hb, hml, hown, hts⟩ (c_L_areTables l hfl dC dI cI b0 qh qs qr qa gh gs gr ga x10 _ hp _) (va_cwS 5 hts gL_law_L_areTables rfl rfl rfl (by decide +kernel) ⟨Nat.le_of_ble_eq_true rfl, Nat.le_of_ble_eq_true rfl⟩) hP hD hS hA hK hN hXS hXH (wLL_nil ..) (fun u => (wLL_nil ..).symm) rfl rfl hl.1 (Nat.le_of_ble_eq_true rfl) ⟨by show 200 + 4 * k + 120 ≤ 673973; omega, by show 4000 + 24 * k + 720 ≤ 7079910; omega⟩ dL_law_1789 (fun r72 u H locs hp hP hD hS => ?_)
        obtain ⟨gh73, gs74, gr75⟩ := u
        refine W.widen (k := 200 + 4 * (k + 30)) (n := 4000 + 24 * (k + 30)) (by omega) (by omega) ?_
        refine lv_if_eq (tgt := 1836) hx hb dL_law_1792 (by decide) (fun c76 => ?_) (fun c76 => ?_)
        · have hp := hp.1 c76
          rw [eV1836] at hp
          exact hp _ _ _ hP hD hS (lv_sub hl [0, 1, 2, 3, 4, 5, 6, 7, 8, 9, 10, 11, 12, 14, 15, 16] rfl)
        · have hp := hp.2 c76
          rw [eV1795] at hp
          exact hp _ _ _ hP hD hS (lv_sub hl [0, 1, 2, 3, 4, 5, 6, 7, 8, 9, 10, 11, 12, 14, 15, 16] rfl))
  have hp := hp (by
    intro k gh gs gr ga x9 x10 x11 x12 x14 x15 x17 hp
    rw [eV1795]
    intro H locs ls hP hD hS hl
    refine lv_iload hx hb dL_law_1795 (lv_at hl 14 rfl) ?_
    refine lv_iconst (v := 3) hx hb dL_law_1797 (by decide) ?_
    refine lv_irem hx hb dL_law_1798 hp.1 ?_
    have hp := hp.2
    refine lv_topi (fun y87 ey87 => ?_)
    have hp := hp y87 ey87
    refine lv_iconst (v := 1) hx hb dL_law_1799 (by decide) ?_
    refine lv_icmp_ne (tgt := 1818) hx hb dL_law_1800 (by decide) (fun c93 => ?_) (fun c93 => ?_)
    · have hp := hp.1 c93
      rw [eV1818] at hp
      exact hp _ _ _ hP hD hS (lv_sub hl [0, 1, 2, 3, 4, 5, 6, 7, 8, 9, 10, 11, 12, 13, 14, 15] rfl)
    · have hp := hp.2 c93
      refine lv_aload_n hx hb dL_law_1803 rfl (lv_at hl 1 rfl) ?_
      refine lv_aload hx hb dL_law_1804 (lv_at hl 5 rfl) ?_
      refine lv_aload hx hb dL_law_1806 (lv_at hl 6 rfl) ?_
      refine lv_iload hx hb dL_law_1808 (lv_at hl 12 rfl) ?_
      refine lv_iload hx hb dL_law_1810 (lv_at hl 10 rfl) ?_
      have hkb := hp.1
      have hp := hp.2
      obtain ⟨r88, hr88, hp⟩ := hp
      refine ro_S (As := [.ref b0, .ref (qa 3), .ref (qa 4), .int x12, .int x10]) (rest := []) ⟨hx, hb, hml, hown, hts⟩ (c_L_areCopies l dC dI cI b0 qh qs qr qa gh gs gr ga x12 x10 r88 hr88) (va_cwS 5 hts gL_law_L_areCopies rfl rfl rfl (by decide +kernel) ⟨Nat.le_of_ble_eq_true rfl, Nat.le_of_ble_eq_true rfl⟩) hP hK hN rfl rfl hl.1 (Nat.le_of_ble_eq_true rfl) ⟨by show 200 + 4 * k ≤ 673973; omega, by show 4000 + 24 * k ≤ 7079910; omega⟩ dL_law_1812 ?_
      refine lv_if_eq (tgt := 1836) hx hb dL_law_1815 (by decide) (fun c92 => ?_) (fun c92 => ?_)
      · have hp := hp.1 c92
        rw [eV1836] at hp
        exact hp _ _ _ hP hD hS (lv_sub hl [0, 1, 2, 3, 4, 5, 6, 7, 8, 9, 10, 11, 12, 13, 14, 15] rfl)
      · have hp := hp.2 c92
        rw [eV1818] at hp
        exact hp _ _ _ hP hD hS (lv_sub hl [0, 1, 2, 3, 4, 5, 6, 7, 8, 9, 10, 11, 12, 13, 14, 15] rfl))
  have hp := hp (by
    intro k gh gs gr ga x9 x10 x11 x12 x14 x15 x17 hp
    rw [eV1818]
    intro H locs ls hP hD hS hl
    refine lv_aload_n hx hb dL_law_1818 rfl (lv_at hl 1 rfl) ?_
    refine lv_iconst (v := 1) hx hb dL_law_1819 (by decide) ?_
    refine lv_iload hx hb dL_law_1820 (lv_at hl 15 rfl) ?_
    refine lv_bipush (v := 12) hx hb dL_law_1822 (by decide) ?_
    refine lv_irem hx hb dL_law_1824 hp.1 ?_
    have hp := hp.2
    refine lv_topi (fun y131 ey131 => ?_)
    have hp := hp y131 ey131
    refine lv_iadd hx hb dL_law_1825 ?_
    have hkb := hp.1
    have hp := hp.2
    obtain ⟨r132, hr132, hp⟩ := hp
    refine ro_S (As := [.ref b0, .int ((1 : Int32) + y131)]) (rest := []) ⟨hx, hb, hml, hown, hts⟩ (c_L_isWaste l dC dI cI b0 qh qs qr qa gh gs gr ga ((1 : Int32) + y131) r132 hr132) (va_cwS 2 hts gL_law_L_isWaste rfl rfl rfl (by decide +kernel) ⟨Nat.le_of_ble_eq_true rfl, Nat.le_of_ble_eq_true rfl⟩) hP hK hN rfl rfl hl.1 (Nat.le_of_ble_eq_true rfl) ⟨by show 200 + 4 * k ≤ 673973; omega, by show 4000 + 24 * k ≤ 7079910; omega⟩ dL_law_1826 ?_
    refine lv_if_eq (tgt := 1836) hx hb dL_law_1829 (by decide) (fun c136 => ?_) (fun c136 => ?_)
    · have hp := hp.1 c136
      rw [eV1836] at hp
      exact hp _ _ _ hP hD hS (lv_sub hl [0, 1, 2, 3, 4, 5, 6, 7, 8, 9, 10, 11, 12, 13, 14, 15] rfl)
    · have hp := hp.2 c136
      refine lv_iconst (v := 1) hx hb dL_law_1832 (by decide) ?_
      refine lv_goto (tgt := 1837) hx hb dL_law_1833 (by decide) ?_
      rw [eV1837] at hp
      exact hp _ _ _ hP hD hS (lv_sub hl [0, 1, 2, 3, 4, 5, 6, 7, 8, 9, 10, 11, 12, 13, 14, 15] rfl))
  have hp := hp (by
    intro k gh gs gr ga x9 x10 x11 x12 x14 x15 x17 hp
    rw [eV1836]
    intro H locs ls hP hD hS hl
    refine lv_iconst (v := 0) hx hb dL_law_1836 (by decide) ?_
    rw [eV1837] at hp
    exact hp _ _ _ hP hD hS (lv_sub hl [0, 1, 2, 3, 4, 5, 6, 7, 8, 9, 10, 11, 12, 13, 14, 15] rfl))
  have hp := hp (by
    intro k gh gs gr ga x9 x10 x11 x12 x14 x15 x17 t0 hp
    rw [eV1837]
    intro H locs ls hP hD hS hl
    refine lv_istore (lv' := [(13, .int t0), (0, .ref b), (1, .ref b0), (2, .ref (qa 0)), (3, .ref (qa 1)), (4, .ref (qa 2)), (5, .ref (qa 3)), (6, .ref (qa 4)), (7, .ref (qa 5)), (8, .ref (qa 6)), (9, .int x9), (10, .int x10), (11, .int x11), (12, .int x12), (14, .int x14), (15, .int x15), (17, .int x17)]) hx hb dL_law_1837 hl (by decide) rfl (fun ls hl => ?_)
    refine lv_iload hx hb dL_law_1839 (lv_at hl 0 rfl) ?_
    refine lv_if_eq (tgt := 1956) hx hb dL_law_1841 (by decide) (fun c130 => ?_) (fun c130 => ?_)
    · have hp := hp.1 c130
      refine lv_iinc (v := x15 + (1 : Int32)) (lv' := [(15, .int (x15 + (1 : Int32))), (13, .int t0), (0, .ref b), (1, .ref b0), (2, .ref (qa 0)), (3, .ref (qa 1)), (4, .ref (qa 2)), (5, .ref (qa 3)), (6, .ref (qa 4)), (7, .ref (qa 5)), (8, .ref (qa 6)), (9, .int x9), (10, .int x10), (11, .int x11), (12, .int x12), (14, .int x14), (17, .int x17)]) hx hb dL_law_1956 hl (k := 15) rfl rfl (by decide) rfl (fun ls hl => ?_)
      refine lv_goto (tgt := 116) hx hb dL_law_1959 (by decide) ?_
      rw [eV116] at hp
      exact hp _ _ _ hP hD hS (lv_sub hl [2, 3, 4, 5, 6, 7, 8, 9, 10, 11, 12, 13, 14, 1, 15, 0] rfl)
    · have hp := hp.2 c130
      refine lv_iload hx hb dL_law_1844 (lv_at hl 11 rfl) ?_
      refine lv_if_le (tgt := 1956) hx hb dL_law_1846 (by decide) (fun c129 => ?_) (fun c129 => ?_)
      · have hp := hp.1 c129
        refine lv_iinc (v := x15 + (1 : Int32)) (lv' := [(15, .int (x15 + (1 : Int32))), (13, .int t0), (0, .ref b), (1, .ref b0), (2, .ref (qa 0)), (3, .ref (qa 1)), (4, .ref (qa 2)), (5, .ref (qa 3)), (6, .ref (qa 4)), (7, .ref (qa 5)), (8, .ref (qa 6)), (9, .int x9), (10, .int x10), (11, .int x11), (12, .int x12), (14, .int x14), (17, .int x17)]) hx hb dL_law_1956 hl (k := 15) rfl rfl (by decide) rfl (fun ls hl => ?_)
        refine lv_goto (tgt := 116) hx hb dL_law_1959 (by decide) ?_
        rw [eV116] at hp
        exact hp _ _ _ hP hD hS (lv_sub hl [2, 3, 4, 5, 6, 7, 8, 9, 10, 11, 12, 13, 14, 1, 15, 0] rfl)
      · have hp := hp.2 c129
        refine lv_iload hx hb dL_law_1849 (lv_at hl 16 rfl) ?_
        refine lv_bipush (v := 7) hx hb dL_law_1851 (by decide) ?_
        refine lv_ishr hx hb dL_law_1853 ?_
        refine lv_topi (fun y117 ey117 => ?_)
        have hp := hp y117 ey117
        refine lv_iload hx hb dL_law_1854 (lv_at hl 11 rfl) ?_
        refine lv_irem hx hb dL_law_1856 hp.1 ?_
        have hp := hp.2
        refine lv_topi (fun y118 ey118 => ?_)
        have hp := hp y118 ey118
        refine lv_istore (lv' := [(19, .int y118), (13, .int t0), (0, .ref b), (1, .ref b0), (2, .ref (qa 0)), (3, .ref (qa 1)), (4, .ref (qa 2)), (5, .ref (qa 3)), (6, .ref (qa 4)), (7, .ref (qa 5)), (8, .ref (qa 6)), (9, .int x9), (10, .int x10), (11, .int x11), (12, .int x12), (14, .int x14), (15, .int x15), (17, .int x17)]) hx hb dL_law_1857 hl (by decide) rfl (fun ls hl => ?_)
        refine lv_aload_n hx hb dL_law_1859 rfl (lv_at hl 3 rfl) ?_
        refine lv_iconst (v := 5) hx hb dL_law_1860 (by decide) ?_
        refine lv_iload hx hb dL_law_1861 (lv_at hl 0 rfl) ?_
        refine lv_iconst (v := 0) hx hb dL_law_1863 (by decide) ?_
        refine lv_iconst (v := 0) hx hb dL_law_1864 (by decide) ?_
        have hkb := hp.1
        have hp := hp.2
        refine pw_SW (As := [.ref b0, .int (5 : Int32), .int y118, .int (0 : Int32), .int (0 : Int32)]) (rest := []) (w1 := []) (w2 := wA qa cI ga) (wsd := fun u : St × St × St => wLL b0 qh qs qr qa cI u.1 u.2.1 u.2.2 ga) ⟨hx, hb, hml, hown, hts⟩ (c_L_on l hfl dC dI cI b0 qh qs qr gh gs gr (5 : Int32) y118 (0 : Int32) (0 : Int32) _ hp _) (vx_cwSW 5 hts gL_law_L_on rfl rfl rfl (by decide +kernel) ⟨Nat.le_of_ble_eq_true rfl, Nat.le_of_ble_eq_true rfl⟩) hP hD hS hA hK hN hXS hXH (wLL_eq ..) (fun u => rfl) rfl rfl hl.1 (Nat.le_of_ble_eq_true rfl) ⟨by show 200 + 4 * k + 4 ≤ 673973; omega, by show 4000 + 24 * k + 24 ≤ 7079910; omega⟩ dL_law_1865 (fun r119 u H locs hp hP hD hS => ?_)
        obtain ⟨gh120, gs121, gr122⟩ := u
        refine W.widen (k := 200 + 4 * (k + 1)) (n := 4000 + 24 * (k + 1)) (by omega) (by omega) ?_
        refine lv_istore (lv' := [(23, .int r119), (19, .int y118), (13, .int t0), (0, .ref b), (1, .ref b0), (2, .ref (qa 0)), (3, .ref (qa 1)), (4, .ref (qa 2)), (5, .ref (qa 3)), (6, .ref (qa 4)), (7, .ref (qa 5)), (8, .ref (qa 6)), (9, .int x9), (10, .int x10), (11, .int x11), (12, .int x12), (14, .int x14), (15, .int x15), (17, .int x17)]) hx hb dL_law_1868 hl (by decide) rfl (fun ls hl => ?_)
        refine lv_aload_n hx hb dL_law_1870 rfl (lv_at hl 4 rfl) ?_
        refine lv_bipush (v := 6) hx hb dL_law_1871 (by decide) ?_
        refine lv_iload hx hb dL_law_1873 (lv_at hl 1 rfl) ?_
        refine lv_iconst (v := 0) hx hb dL_law_1875 (by decide) ?_
        refine lv_iconst (v := 0) hx hb dL_law_1876 (by decide) ?_
        have hkb := hp.1
        have hp := hp.2
        refine pw_SW (As := [.ref b0, .int (6 : Int32), .int y118, .int (0 : Int32), .int (0 : Int32)]) (rest := []) (w1 := []) (w2 := wA qa cI ga) (wsd := fun u : St × St × St => wLL b0 qh qs qr qa cI u.1 u.2.1 u.2.2 ga) ⟨hx, hb, hml, hown, hts⟩ (c_L_on l hfl dC dI cI b0 qh qs qr gh120 gs121 gr122 (6 : Int32) y118 (0 : Int32) (0 : Int32) _ hp _) (vx_cwSW 5 hts gL_law_L_on rfl rfl rfl (by decide +kernel) ⟨Nat.le_of_ble_eq_true rfl, Nat.le_of_ble_eq_true rfl⟩) hP hD hS hA hK hN hXS hXH (wLL_eq ..) (fun u => rfl) rfl rfl hl.1 (Nat.le_of_ble_eq_true rfl) ⟨by show 200 + 4 * (k + 1) + 4 ≤ 673973; omega, by show 4000 + 24 * (k + 1) + 24 ≤ 7079910; omega⟩ dL_law_1877 (fun r123 u H locs hp hP hD hS => ?_)
        obtain ⟨gh124, gs125, gr126⟩ := u
        refine W.widen (k := 200 + 4 * (k + 1 + 1)) (n := 4000 + 24 * (k + 1 + 1)) (by omega) (by omega) ?_
        refine lv_iload hx hb dL_law_1880 (lv_at hl 0 rfl) ?_
        refine lv_icmp_ne (tgt := 1953) hx hb dL_law_1882 (by decide) (fun c128 => ?_) (fun c128 => ?_)
        · have hp := hp.1 c128
          refine lv_iconst (v := 0) hx hb dL_law_1953 (by decide) ?_
          refine lv_istore (lv' := [(13, .int (0 : Int32)), (23, .int r119), (19, .int y118), (0, .ref b), (1, .ref b0), (2, .ref (qa 0)), (3, .ref (qa 1)), (4, .ref (qa 2)), (5, .ref (qa 3)), (6, .ref (qa 4)), (7, .ref (qa 5)), (8, .ref (qa 6)), (9, .int x9), (10, .int x10), (11, .int x11), (12, .int x12), (14, .int x14), (15, .int x15), (17, .int x17)]) hx hb dL_law_1954 hl (by decide) rfl (fun ls hl => ?_)
          refine lv_iinc (v := x15 + (1 : Int32)) (lv' := [(15, .int (x15 + (1 : Int32))), (13, .int (0 : Int32)), (23, .int r119), (19, .int y118), (0, .ref b), (1, .ref b0), (2, .ref (qa 0)), (3, .ref (qa 1)), (4, .ref (qa 2)), (5, .ref (qa 3)), (6, .ref (qa 4)), (7, .ref (qa 5)), (8, .ref (qa 6)), (9, .int x9), (10, .int x10), (11, .int x11), (12, .int x12), (14, .int x14), (17, .int x17)]) hx hb dL_law_1956 hl (k := 17) rfl rfl (by decide) rfl (fun ls hl => ?_)
          refine lv_goto (tgt := 116) hx hb dL_law_1959 (by decide) ?_
          rw [eV116] at hp
          exact hp _ _ _ hP hD hS (lv_sub hl [4, 5, 6, 7, 8, 9, 10, 11, 12, 13, 14, 15, 16, 1, 17, 0] rfl)
        · have hp := hp.2 c128
          refine lv_iload hx hb dL_law_1885 (lv_at hl 0 rfl) ?_
          refine lv_bipush (v := -13) hx hb dL_law_1887 (by decide) ?_
          refine lv_icmp_ne (tgt := 1896) hx hb dL_law_1889 (by decide) (fun c127 => ?_) (fun c127 => ?_)
          · have hp := hp.1 c127
            refine lv_iconst (v := 0) hx hb dL_law_1896 (by decide) ?_
            rw [eV1897] at hp
            exact hp _ _ _ hP hD hS (lv_sub hl [3, 4, 5, 6, 7, 8, 9, 10, 11, 12, 13, 14, 15, 16, 17, 1, 0] rfl)
          · have hp := hp.2 c127
            refine lv_iconst (v := 1) hx hb dL_law_1892 (by decide) ?_
            refine lv_goto (tgt := 1897) hx hb dL_law_1893 (by decide) ?_
            rw [eV1897] at hp
            exact hp _ _ _ hP hD hS (lv_sub hl [3, 4, 5, 6, 7, 8, 9, 10, 11, 12, 13, 14, 15, 16, 17, 1, 0] rfl))
  have hp := hp (by
    intro k gh gs gr ga x9 x10 x11 x12 x14 x15 x19 x23 t0 hp
    rw [eV1897]
    intro H locs ls hP hD hS hl
    refine lv_aload_n hx hb dL_law_1897 rfl (lv_at hl 1 rfl) ?_
    refine lv_iload hx hb dL_law_1898 (lv_at hl 15 rfl) ?_
    have hkb := hp.1
    have hp := hp.2
    obtain ⟨r159, hr159, hp⟩ := hp
    refine ro_V (As := [.int x19]) (rest := [.int t0]) ⟨hx, hb, hml, hown, hts⟩ (cn_X4_copyOf l dC dI cI b0 qh qs qr gh gs gr x19 r159 hr159) (cwV 1 hts gL_law_X4_copyOf rfl rfl rfl (by decide +kernel) ⟨Nat.le_of_ble_eq_true rfl, Nat.le_of_ble_eq_true rfl⟩) (tLL hP) hK hN rfl rfl rfl rfl hl.1 (Nat.le_of_ble_eq_true rfl) ⟨by show 200 + 4 * k ≤ 673973; omega, by show 4000 + 24 * k ≤ 7079910; omega⟩ dL_law_1900 ?_
    refine lv_iconst (v := -1) hx hb dL_law_1903 (by decide) ?_
    refine lv_icmp_ne (tgt := 1911) hx hb dL_law_1904 (by decide) (fun c160 => ?_) (fun c160 => ?_)
    · have hp := hp.1 c160
      refine lv_iconst (v := 0) hx hb dL_law_1911 (by decide) ?_
      rw [eV1912] at hp
      exact hp _ _ _ hP hD hS (lv_sub hl [0, 1, 2, 3, 4, 5, 6, 7, 8, 9, 10, 11, 12, 13, 14, 15, 16] rfl)
    · have hp := hp.2 c160
      refine lv_iconst (v := 1) hx hb dL_law_1907 (by decide) ?_
      refine lv_goto (tgt := 1912) hx hb dL_law_1908 (by decide) ?_
      rw [eV1912] at hp
      exact hp _ _ _ hP hD hS (lv_sub hl [0, 1, 2, 3, 4, 5, 6, 7, 8, 9, 10, 11, 12, 13, 14, 15, 16] rfl))
  have hp := hp (by
    intro k gh gs gr ga x9 x10 x11 x12 x14 x15 x19 x23 t0 t1 hp
    rw [eV1912]
    intro H locs ls hP hD hS hl
    refine lv_icmp_ne (tgt := 1953) hx hb dL_law_1912 (by decide) (fun c195 => ?_) (fun c195 => ?_)
    · have hp := hp.1 c195
      refine lv_iconst (v := 0) hx hb dL_law_1953 (by decide) ?_
      refine lv_istore (lv' := [(13, .int (0 : Int32)), (0, .ref b), (1, .ref b0), (2, .ref (qa 0)), (3, .ref (qa 1)), (4, .ref (qa 2)), (5, .ref (qa 3)), (6, .ref (qa 4)), (7, .ref (qa 5)), (8, .ref (qa 6)), (9, .int x9), (10, .int x10), (11, .int x11), (12, .int x12), (14, .int x14), (15, .int x15), (19, .int x19), (23, .int x23)]) hx hb dL_law_1954 hl (by decide) rfl (fun ls hl => ?_)
      refine lv_iinc (v := x15 + (1 : Int32)) (lv' := [(15, .int (x15 + (1 : Int32))), (13, .int (0 : Int32)), (0, .ref b), (1, .ref b0), (2, .ref (qa 0)), (3, .ref (qa 1)), (4, .ref (qa 2)), (5, .ref (qa 3)), (6, .ref (qa 4)), (7, .ref (qa 5)), (8, .ref (qa 6)), (9, .int x9), (10, .int x10), (11, .int x11), (12, .int x12), (14, .int x14), (19, .int x19), (23, .int x23)]) hx hb dL_law_1956 hl (k := 15) rfl rfl (by decide) rfl (fun ls hl => ?_)
      refine lv_goto (tgt := 116) hx hb dL_law_1959 (by decide) ?_
      rw [eV116] at hp
      exact hp _ _ _ hP hD hS (lv_sub hl [2, 3, 4, 5, 6, 7, 8, 9, 10, 11, 12, 13, 14, 1, 15, 0] rfl)
    · have hp := hp.2 c195
      refine lv_iload hx hb dL_law_1915 (lv_at hl 16 rfl) ?_
      refine lv_bipush (v := 100) hx hb dL_law_1917 (by decide) ?_
      refine lv_icmp_ge (tgt := 1953) hx hb dL_law_1919 (by decide) (fun c194 => ?_) (fun c194 => ?_)
      · have hp := hp.1 c194
        refine lv_iconst (v := 0) hx hb dL_law_1953 (by decide) ?_
        refine lv_istore (lv' := [(13, .int (0 : Int32)), (0, .ref b), (1, .ref b0), (2, .ref (qa 0)), (3, .ref (qa 1)), (4, .ref (qa 2)), (5, .ref (qa 3)), (6, .ref (qa 4)), (7, .ref (qa 5)), (8, .ref (qa 6)), (9, .int x9), (10, .int x10), (11, .int x11), (12, .int x12), (14, .int x14), (15, .int x15), (19, .int x19), (23, .int x23)]) hx hb dL_law_1954 hl (by decide) rfl (fun ls hl => ?_)
        refine lv_iinc (v := x15 + (1 : Int32)) (lv' := [(15, .int (x15 + (1 : Int32))), (13, .int (0 : Int32)), (0, .ref b), (1, .ref b0), (2, .ref (qa 0)), (3, .ref (qa 1)), (4, .ref (qa 2)), (5, .ref (qa 3)), (6, .ref (qa 4)), (7, .ref (qa 5)), (8, .ref (qa 6)), (9, .int x9), (10, .int x10), (11, .int x11), (12, .int x12), (14, .int x14), (19, .int x19), (23, .int x23)]) hx hb dL_law_1956 hl (k := 15) rfl rfl (by decide) rfl (fun ls hl => ?_)
        refine lv_goto (tgt := 116) hx hb dL_law_1959 (by decide) ?_
        rw [eV116] at hp
        exact hp _ _ _ hP hD hS (lv_sub hl [2, 3, 4, 5, 6, 7, 8, 9, 10, 11, 12, 13, 14, 1, 15, 0] rfl)
      · have hp := hp.2 c194
        refine lv_iload hx hb dL_law_1922 (lv_at hl 14 rfl) ?_
        refine lv_bipush (v := 8) hx hb dL_law_1924 (by decide) ?_
        refine lv_irem hx hb dL_law_1926 hp.1 ?_
        have hp := hp.2
        refine lv_topi (fun y187 ey187 => ?_)
        have hp := hp y187 ey187
        refine lv_if_gt (tgt := 1949) hx hb dL_law_1927 (by decide) (fun c193 => ?_) (fun c193 => ?_)
        · have hp := hp.1 c193
          refine lv_iconst (v := 1) hx hb dL_law_1949 (by decide) ?_
          refine lv_goto (tgt := 1954) hx hb dL_law_1950 (by decide) ?_
          refine lv_istore (lv' := [(13, .int (1 : Int32)), (0, .ref b), (1, .ref b0), (2, .ref (qa 0)), (3, .ref (qa 1)), (4, .ref (qa 2)), (5, .ref (qa 3)), (6, .ref (qa 4)), (7, .ref (qa 5)), (8, .ref (qa 6)), (9, .int x9), (10, .int x10), (11, .int x11), (12, .int x12), (14, .int x14), (15, .int x15), (19, .int x19), (23, .int x23)]) hx hb dL_law_1954 hl (by decide) rfl (fun ls hl => ?_)
          refine lv_iinc (v := x15 + (1 : Int32)) (lv' := [(15, .int (x15 + (1 : Int32))), (13, .int (1 : Int32)), (0, .ref b), (1, .ref b0), (2, .ref (qa 0)), (3, .ref (qa 1)), (4, .ref (qa 2)), (5, .ref (qa 3)), (6, .ref (qa 4)), (7, .ref (qa 5)), (8, .ref (qa 6)), (9, .int x9), (10, .int x10), (11, .int x11), (12, .int x12), (14, .int x14), (19, .int x19), (23, .int x23)]) hx hb dL_law_1956 hl (k := 15) rfl rfl (by decide) rfl (fun ls hl => ?_)
          refine lv_goto (tgt := 116) hx hb dL_law_1959 (by decide) ?_
          rw [eV116] at hp
          exact hp _ _ _ hP hD hS (lv_sub hl [2, 3, 4, 5, 6, 7, 8, 9, 10, 11, 12, 13, 14, 1, 15, 0] rfl)
        · have hp := hp.2 c193
          refine lv_aload_n hx hb dL_law_1930 rfl (lv_at hl 1 rfl) ?_
          refine lv_aload hx hb dL_law_1931 (lv_at hl 7 rfl) ?_
          refine lv_iload hx hb dL_law_1933 (lv_at hl 15 rfl) ?_
          refine lv_aload_n hx hb dL_law_1935 rfl (lv_at hl 3 rfl) ?_
          refine lv_iload hx hb dL_law_1936 (lv_at hl 15 rfl) ?_
          refine va_iald hx hb hK hP 45 0 rfl rfl hp.1 dL_law_1938 ?_
          have hp := hp.2
          refine lv_aload hx hb dL_law_1939 (lv_at hl 5 rfl) ?_
          refine lv_iload hx hb dL_law_1941 (lv_at hl 12 rfl) ?_
          have hkb := hp.1
          have hp := hp.2
          refine pw_S (As := [.ref b0, .ref (qa 5), .int x19, .int (ga 1 x19.toNatClampNeg), .ref (qa 3), .int x12]) (rest := []) (w1 := []) (w2 := []) (wsd := fun u : St × St × St => wLL b0 qh qs qr qa cI u.1 u.2.1 u.2.2 ga) ⟨hx, hb, hml, hown, hts⟩ (c_L_areOffers l hfl dC dI cI b0 qh qs qr qa gh gs gr ga x19 (ga 1 x19.toNatClampNeg) x12 _ hp _) (va_cwS 6 hts gL_law_L_areOffers rfl rfl rfl (by decide +kernel) ⟨Nat.le_of_ble_eq_true rfl, Nat.le_of_ble_eq_true rfl⟩) hP hD hS hA hK hN hXS hXH (wLL_nil ..) (fun u => (wLL_nil ..).symm) rfl rfl hl.1 (Nat.le_of_ble_eq_true rfl) ⟨by show 200 + 4 * k + 8 ≤ 673973; omega, by show 4000 + 24 * k + 48 ≤ 7079910; omega⟩ dL_law_1943 (fun r188 u H locs hp hP hD hS => ?_)
          obtain ⟨gh189, gs190, gr191⟩ := u
          refine W.widen (k := 200 + 4 * (k + 2)) (n := 4000 + 24 * (k + 2)) (by omega) (by omega) ?_
          refine lv_if_eq (tgt := 1953) hx hb dL_law_1946 (by decide) (fun c192 => ?_) (fun c192 => ?_)
          · have hp := hp.1 c192
            refine lv_iconst (v := 0) hx hb dL_law_1953 (by decide) ?_
            refine lv_istore (lv' := [(13, .int (0 : Int32)), (0, .ref b), (1, .ref b0), (2, .ref (qa 0)), (3, .ref (qa 1)), (4, .ref (qa 2)), (5, .ref (qa 3)), (6, .ref (qa 4)), (7, .ref (qa 5)), (8, .ref (qa 6)), (9, .int x9), (10, .int x10), (11, .int x11), (12, .int x12), (14, .int x14), (15, .int x15), (19, .int x19), (23, .int x23)]) hx hb dL_law_1954 hl (by decide) rfl (fun ls hl => ?_)
            refine lv_iinc (v := x15 + (1 : Int32)) (lv' := [(15, .int (x15 + (1 : Int32))), (13, .int (0 : Int32)), (0, .ref b), (1, .ref b0), (2, .ref (qa 0)), (3, .ref (qa 1)), (4, .ref (qa 2)), (5, .ref (qa 3)), (6, .ref (qa 4)), (7, .ref (qa 5)), (8, .ref (qa 6)), (9, .int x9), (10, .int x10), (11, .int x11), (12, .int x12), (14, .int x14), (19, .int x19), (23, .int x23)]) hx hb dL_law_1956 hl (k := 15) rfl rfl (by decide) rfl (fun ls hl => ?_)
            refine lv_goto (tgt := 116) hx hb dL_law_1959 (by decide) ?_
            rw [eV116] at hp
            exact hp _ _ _ hP hD hS (lv_sub hl [2, 3, 4, 5, 6, 7, 8, 9, 10, 11, 12, 13, 14, 1, 15, 0] rfl)
          · have hp := hp.2 c192
            refine lv_iconst (v := 1) hx hb dL_law_1949 (by decide) ?_
            refine lv_goto (tgt := 1954) hx hb dL_law_1950 (by decide) ?_
            refine lv_istore (lv' := [(13, .int (1 : Int32)), (0, .ref b), (1, .ref b0), (2, .ref (qa 0)), (3, .ref (qa 1)), (4, .ref (qa 2)), (5, .ref (qa 3)), (6, .ref (qa 4)), (7, .ref (qa 5)), (8, .ref (qa 6)), (9, .int x9), (10, .int x10), (11, .int x11), (12, .int x12), (14, .int x14), (15, .int x15), (19, .int x19), (23, .int x23)]) hx hb dL_law_1954 hl (by decide) rfl (fun ls hl => ?_)
            refine lv_iinc (v := x15 + (1 : Int32)) (lv' := [(15, .int (x15 + (1 : Int32))), (13, .int (1 : Int32)), (0, .ref b), (1, .ref b0), (2, .ref (qa 0)), (3, .ref (qa 1)), (4, .ref (qa 2)), (5, .ref (qa 3)), (6, .ref (qa 4)), (7, .ref (qa 5)), (8, .ref (qa 6)), (9, .int x9), (10, .int x10), (11, .int x11), (12, .int x12), (14, .int x14), (19, .int x19), (23, .int x23)]) hx hb dL_law_1956 hl (k := 15) rfl rfl (by decide) rfl (fun ls hl => ?_)
            refine lv_goto (tgt := 116) hx hb dL_law_1959 (by decide) ?_
            rw [eV116] at hp
            exact hp _ _ _ hP hD hS (lv_sub hl [2, 3, 4, 5, 6, 7, 8, 9, 10, 11, 12, 13, 14, 1, 15, 0] rfl))
  refine lv_iconst (v := 0) hx hb dL_law_48 (by decide) ?_
  refine lv_istore (lv' := [(9, .int (0 : Int32)), (0, .ref b), (1, .ref b0), (2, .ref (qa 0)), (3, .ref (qa 1)), (4, .ref (qa 2)), (5, .ref (qa 3)), (6, .ref (qa 4)), (7, .ref (qa 5)), (8, .ref (qa 6))]) hx hb dL_law_49 hl (by decide) rfl (fun ls hl => ?_)
  refine lv_iconst (v := 0) hx hb dL_law_51 (by decide) ?_
  refine lv_istore (lv' := [(10, .int (0 : Int32)), (9, .int (0 : Int32)), (0, .ref b), (1, .ref b0), (2, .ref (qa 0)), (3, .ref (qa 1)), (4, .ref (qa 2)), (5, .ref (qa 3)), (6, .ref (qa 4)), (7, .ref (qa 5)), (8, .ref (qa 6))]) hx hb dL_law_52 hl (by decide) rfl (fun ls hl => ?_)
  refine lv_iconst (v := 0) hx hb dL_law_54 (by decide) ?_
  refine lv_istore (lv' := [(11, .int (0 : Int32)), (10, .int (0 : Int32)), (9, .int (0 : Int32)), (0, .ref b), (1, .ref b0), (2, .ref (qa 0)), (3, .ref (qa 1)), (4, .ref (qa 2)), (5, .ref (qa 3)), (6, .ref (qa 4)), (7, .ref (qa 5)), (8, .ref (qa 6))]) hx hb dL_law_55 hl (by decide) rfl (fun ls hl => ?_)
  refine lv_iconst (v := 0) hx hb dL_law_57 (by decide) ?_
  refine lv_istore (lv' := [(12, .int (0 : Int32)), (11, .int (0 : Int32)), (10, .int (0 : Int32)), (9, .int (0 : Int32)), (0, .ref b), (1, .ref b0), (2, .ref (qa 0)), (3, .ref (qa 1)), (4, .ref (qa 2)), (5, .ref (qa 3)), (6, .ref (qa 4)), (7, .ref (qa 5)), (8, .ref (qa 6))]) hx hb dL_law_58 hl (by decide) rfl (fun ls hl => ?_)
  refine lv_aload_n hx hb dL_law_60 rfl (lv_at hl 5 rfl) ?_
  have hkb := hp.1
  have hp := hp.2
  obtain ⟨r1, hr1, hp⟩ := hp
  refine ro_V (As := []) (rest := []) ⟨hx, hb, hml, hown, hts⟩ (c_X4_now l dC dI cI b0 qh qs qr gh gs gr r1 hr1) (cwV 0 hts gL_law_X4_now rfl rfl rfl (by decide +kernel) ⟨Nat.le_of_ble_eq_true rfl, Nat.le_of_ble_eq_true rfl⟩) (tLL hP) hK hN rfl rfl rfl rfl hl.1 (Nat.le_of_ble_eq_true rfl) ⟨by show 200 + 4 * 0 ≤ 673973; omega, by show 4000 + 24 * 0 ≤ 7079910; omega⟩ dL_law_61 ?_
  refine lv_if_ne (tgt := 78) hx hb dL_law_64 (by decide) (fun c4 => ?_) (fun c4 => ?_)
  · have hp := hp.1 c4
    rw [eV78] at hp
    exact hp _ _ _ hP hD hS (lv_sub hl [4, 5, 6, 7, 8, 9, 10, 11, 12, 3, 2, 1, 0] rfl)
  · have hp := hp.2 c4
    refine lv_aload_n hx hb dL_law_67 rfl (lv_at hl 5 rfl) ?_
    have hkb := hp.1
    have hp := hp.2
    obtain ⟨r2, hr2, hp⟩ := hp
    refine ro_V (As := []) (rest := []) ⟨hx, hb, hml, hown, hts⟩ (c_X4_waiting l dC dI cI b0 qh qs qr gh gs gr r2 hr2) (cwV 0 hts gL_law_X4_waiting rfl rfl rfl (by decide +kernel) ⟨Nat.le_of_ble_eq_true rfl, Nat.le_of_ble_eq_true rfl⟩) (tLL hP) hK hN rfl rfl rfl rfl hl.1 (Nat.le_of_ble_eq_true rfl) ⟨by show 200 + 4 * 0 ≤ 673973; omega, by show 4000 + 24 * 0 ≤ 7079910; omega⟩ dL_law_68 ?_
    refine lv_if_ne (tgt := 78) hx hb dL_law_71 (by decide) (fun c3 => ?_) (fun c3 => ?_)
    · have hp := hp.1 c3
      rw [eV78] at hp
      exact hp _ _ _ hP hD hS (lv_sub hl [4, 5, 6, 7, 8, 9, 10, 11, 12, 3, 2, 1, 0] rfl)
    · have hp := hp.2 c3
      refine lv_iconst (v := 1) hx hb dL_law_74 (by decide) ?_
      refine lv_goto (tgt := 79) hx hb dL_law_75 (by decide) ?_
      rw [eV79] at hp
      exact hp _ _ _ hP hD hS (lv_sub hl [4, 5, 6, 7, 8, 9, 10, 11, 12, 3, 2, 1, 0] rfl)
