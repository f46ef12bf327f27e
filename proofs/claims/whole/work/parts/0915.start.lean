/-! THE LAW: its loop, its start -/
def SimAll (Rel : St → St → St → St → Prop) : Prop := Sim_pass Rel ∧ Sim_now Rel ∧ Sim_addTable Rel ∧ Sim_addTitle Rel ∧ Sim_addCopy Rel ∧ Sim_addRule Rel ∧ Sim_arrive Rel ∧ Sim_leave Rel ∧ Sim_tableOf Rel ∧ Sim_tablesOf Rel ∧ Sim_waiting Rel ∧ Sim_waste Rel ∧ Sim_wasteByAll Rel ∧ Sim_left Rel ∧ Sim_offers Rel ∧ Sim_offerAt Rel ∧ Sim_serve Rel ∧ Sim_giveBack Rel ∧ Sim_found Rel ∧ Sim_pieces Rel ∧ Sim_stateOf Rel ∧ Sim_lenders Rel ∧ Sim_copyOf Rel ∧ Sim_ruling Rel ∧ Sim_rulingFromBelow Rel ∧ Sim_depth Rel
set_option maxRecDepth 100000 in
set_option maxHeartbeats 4000000 in
theorem law_step {p : Program} {l : Launch} {e : Env} {s : State} {m : MethodId} {below : List Frame} {meth : Method} {c : Code} {b L : Nat} {xs : Nat → Int32} {dC : Nat → ClassId} {dI : Nat → Nat → Nat} {cI cJ : ClassId} {o b0 : Nat} {qh qs qr qm : Nat → Nat} {Rel : St → St → St → St → Prop} {x4 : Int32} {k n : Nat} (hE : lw_Env p l s m c b L xs dC dI cI cJ) (hSim : SimAll Rel) {j : Nat} (hi : x4 = nI j) (hj0 : j ≤ 8192) (hk : k + 8 ≤ 601024) (hn : n + 48 ≤ 7293034) (kk : j + 8 ≤ L → law_at p l e s m below meth c b dC dI cI cJ o b0 qh qs qr qm Rel 1750 x4 (k + 8) (n + 48)) (kexit : law_at p l e s m below meth c b dC dI cI cJ o b0 qh qs qr qm Rel 1756 x4 k n) : law_at p l e s m below meth c b dC dI cI cJ o b0 qh qs qr qm Rel 23 x4 k n := by
  intro H locs ls gh gs gr gm f hrel hP hD hS hl
  obtain ⟨hx, hb, hml, hown, hts, hX, hbl, hK, hN, hXS, hXH, hfl, hL⟩ := id hE
  obtain ⟨h_pass, h_now, h_addTable, h_addTitle, h_addCopy, h_addRule, h_arrive, h_leave, h_tableOf, h_tablesOf, h_waiting, h_waste, h_wasteByAll, h_left, h_offers, h_offerAt, h_serve, h_giveBack, h_found, h_pieces, h_stateOf, h_lenders, h_copyOf, h_ruling, h_rulingFromBelow, h_depth⟩ := hSim
  have hbA : ¬ (fun q : Nat => s.heap.size ≤ q) b := Nat.not_le.mpr hbl
  have hl4 : lv_has ls 7 [(4, .int x4), (3, .ref o), (2, .ref (qm 0)), (1, .ref b0), (0, .ref b)] := hl
  refine lv_iload hx hb dL_law_23 (lv_at hl 0 rfl) ?_
  refine lv_aload_n hx hb dL_law_25 rfl (lv_at hl 4 rfl) ?_
  refine va_slen hx hb hX hbl hbA hS dL_law_26 ?_
  refine lv_bipush (v := 8) hx hb dL_law_27 (by decide) ?_
  refine lv_isub hx hb dL_law_29 ?_
  refine lv_icmp_gt (tgt := 1756) hx hb dL_law_30 (by decide) (fun c1 => ?_) (fun c1 => ?_)
  · exact kexit H locs ls gh gs gr gm f hrel hP hD hS hl
  · have hj : j + 8 ≤ L := by
      have h8 : (nI L - (8 : Int32)).toInt = (L : Int) - 8 := pk_sub_toInt (a := L) (b := 8) (by omega) (by omega)
      rw [hi, Int32.lt_iff_toInt_lt] at c1
      have h9 : (nI L - (8 : Int32)).toInt = (L : Int) - 8 := h8
      rw [show (Int32.ofNat L - 8 : Int32).toInt = (L : Int) - 8 from h9, nI_toInt (by omega)] at c1
      omega
    have kk := kk hj
    refine lv_aload_n hx hb dL_law_33 rfl (lv_at hl 4 rfl) ?_
    refine lv_iload hx hb dL_law_34 (lv_at hl 0 rfl) ?_
    refine va_sld hx hb hX hbl hbA hS (lw_in0 hi (by omega) hL) dL_law_36 ?_
    refine lv_bipush (v := 31) hx hb dL_law_37 (by decide) ?_
    refine lv_iand hx hb dL_law_39 ?_
    refine lv_topi (fun y ey => ?_)
    by_cases y0 : y = (0 : Int32)
    · refine lv_tableIn (tgt := 160) hx hb dL_law_40 (by rw [y0]; decide) (by rw [y0]; decide) (by rw [y0]; rfl) (by decide) ?_
      exact law_c0 hE h_pass hi hj hk hn kk H locs ls gh gs gr gm f hrel hP hD hS hl
    by_cases y1 : y = (1 : Int32)
    · refine lv_tableIn (tgt := 216) hx hb dL_law_40 (by rw [y1]; decide) (by rw [y1]; decide) (by rw [y1]; rfl) (by decide) ?_
      exact law_c1 hE h_now hi hj hk hn kk H locs ls gh gs gr gm f hrel hP hD hS hl
    by_cases y2 : y = (2 : Int32)
    · refine lv_tableIn (tgt := 229) hx hb dL_law_40 (by rw [y2]; decide) (by rw [y2]; decide) (by rw [y2]; rfl) (by decide) ?_
      exact law_c2 hE h_addTable hi hj hk hn kk H locs ls gh gs gr gm f hrel hP hD hS hl
    by_cases y3 : y = (3 : Int32)
    · refine lv_tableIn (tgt := 285) hx hb dL_law_40 (by rw [y3]; decide) (by rw [y3]; decide) (by rw [y3]; rfl) (by decide) ?_
      exact law_c3 hE h_addTitle hi hj hk hn kk H locs ls gh gs gr gm f hrel hP hD hS hl
    by_cases y4 : y = (4 : Int32)
    · refine lv_tableIn (tgt := 417) hx hb dL_law_40 (by rw [y4]; decide) (by rw [y4]; decide) (by rw [y4]; rfl) (by decide) ?_
      exact law_c4 hE h_addCopy hi hj hk hn kk H locs ls gh gs gr gm f hrel hP hD hS hl
    by_cases y5 : y = (5 : Int32)
    · refine lv_tableIn (tgt := 473) hx hb dL_law_40 (by rw [y5]; decide) (by rw [y5]; decide) (by rw [y5]; rfl) (by decide) ?_
      exact law_c5 hE h_addRule hi hj hk hn kk H locs ls gh gs gr gm f hrel hP hD hS hl
    by_cases y6 : y = (6 : Int32)
    · refine lv_tableIn (tgt := 577) hx hb dL_law_40 (by rw [y6]; decide) (by rw [y6]; decide) (by rw [y6]; rfl) (by decide) ?_
      exact law_c6 hE h_arrive hi hj hk hn kk H locs ls gh gs gr gm f hrel hP hD hS hl
    by_cases y7 : y = (7 : Int32)
    · refine lv_tableIn (tgt := 645) hx hb dL_law_40 (by rw [y7]; decide) (by rw [y7]; decide) (by rw [y7]; rfl) (by decide) ?_
      exact law_c7 hE h_leave hi hj hk hn kk H locs ls gh gs gr gm f hrel hP hD hS hl
    by_cases y8 : y = (8 : Int32)
    · refine lv_tableIn (tgt := 701) hx hb dL_law_40 (by rw [y8]; decide) (by rw [y8]; decide) (by rw [y8]; rfl) (by decide) ?_
      exact law_c8 hE h_tableOf hi hj hk hn kk H locs ls gh gs gr gm f hrel hP hD hS hl
    by_cases y9 : y = (9 : Int32)
    · refine lv_tableIn (tgt := 757) hx hb dL_law_40 (by rw [y9]; decide) (by rw [y9]; decide) (by rw [y9]; rfl) (by decide) ?_
      exact law_c9 hE h_tablesOf hi hj hk hn kk H locs ls gh gs gr gm f hrel hP hD hS hl
    by_cases y10 : y = (10 : Int32)
    · refine lv_tableIn (tgt := 813) hx hb dL_law_40 (by rw [y10]; decide) (by rw [y10]; decide) (by rw [y10]; rfl) (by decide) ?_
      exact law_c10 hE h_waiting hi hj hk hn kk H locs ls gh gs gr gm f hrel hP hD hS hl
    by_cases y11 : y = (11 : Int32)
    · refine lv_tableIn (tgt := 826) hx hb dL_law_40 (by rw [y11]; decide) (by rw [y11]; decide) (by rw [y11]; rfl) (by decide) ?_
      exact law_c11 hE h_waste hi hj hk hn kk H locs ls gh gs gr gm f hrel hP hD hS hl
    by_cases y12 : y = (12 : Int32)
    · refine lv_tableIn (tgt := 882) hx hb dL_law_40 (by rw [y12]; decide) (by rw [y12]; decide) (by rw [y12]; rfl) (by decide) ?_
      exact law_c12 hE h_wasteByAll hi hj hk hn kk H locs ls gh gs gr gm f hrel hP hD hS hl
    by_cases y13 : y = (13 : Int32)
    · refine lv_tableIn (tgt := 938) hx hb dL_law_40 (by rw [y13]; decide) (by rw [y13]; decide) (by rw [y13]; rfl) (by decide) ?_
      exact law_c13 hE h_left hi hj hk hn kk H locs ls gh gs gr gm f hrel hP hD hS hl
    by_cases y14 : y = (14 : Int32)
    · refine lv_tableIn (tgt := 994) hx hb dL_law_40 (by rw [y14]; decide) (by rw [y14]; decide) (by rw [y14]; rfl) (by decide) ?_
      exact law_c14 hE h_offers hi hj hk hn kk H locs ls gh gs gr gm f hrel hP hD hS hl
    by_cases y15 : y = (15 : Int32)
    · refine lv_tableIn (tgt := 1050) hx hb dL_law_40 (by rw [y15]; decide) (by rw [y15]; decide) (by rw [y15]; rfl) (by decide) ?_
      exact law_c15 hE h_offerAt hi hj hk hn kk H locs ls gh gs gr gm f hrel hP hD hS hl
    by_cases y16 : y = (16 : Int32)
    · refine lv_tableIn (tgt := 1118) hx hb dL_law_40 (by rw [y16]; decide) (by rw [y16]; decide) (by rw [y16]; rfl) (by decide) ?_
      exact law_c16 hE h_serve hi hj hk hn kk H locs ls gh gs gr gm f hrel hP hD hS hl
    by_cases y17 : y = (17 : Int32)
    · refine lv_tableIn (tgt := 1186) hx hb dL_law_40 (by rw [y17]; decide) (by rw [y17]; decide) (by rw [y17]; rfl) (by decide) ?_
      exact law_c17 hE h_giveBack hi hj hk hn kk H locs ls gh gs gr gm f hrel hP hD hS hl
    by_cases y18 : y = (18 : Int32)
    · refine lv_tableIn (tgt := 1266) hx hb dL_law_40 (by rw [y18]; decide) (by rw [y18]; decide) (by rw [y18]; rfl) (by decide) ?_
      exact law_c18 hE h_found hi hj hk hn kk H locs ls gh gs gr gm f hrel hP hD hS hl
    by_cases y19 : y = (19 : Int32)
    · refine lv_tableIn (tgt := 1346) hx hb dL_law_40 (by rw [y19]; decide) (by rw [y19]; decide) (by rw [y19]; rfl) (by decide) ?_
      exact law_c19 hE h_pieces hi hj hk hn kk H locs ls gh gs gr gm f hrel hP hD hS hl
    by_cases y20 : y = (20 : Int32)
    · refine lv_tableIn (tgt := 1414) hx hb dL_law_40 (by rw [y20]; decide) (by rw [y20]; decide) (by rw [y20]; rfl) (by decide) ?_
      exact law_c20 hE h_stateOf hi hj hk hn kk H locs ls gh gs gr gm f hrel hP hD hS hl
    by_cases y21 : y = (21 : Int32)
    · refine lv_tableIn (tgt := 1470) hx hb dL_law_40 (by rw [y21]; decide) (by rw [y21]; decide) (by rw [y21]; rfl) (by decide) ?_
      exact law_c21 hE h_lenders hi hj hk hn kk H locs ls gh gs gr gm f hrel hP hD hS hl
    by_cases y22 : y = (22 : Int32)
    · refine lv_tableIn (tgt := 1526) hx hb dL_law_40 (by rw [y22]; decide) (by rw [y22]; decide) (by rw [y22]; rfl) (by decide) ?_
      exact law_c22 hE h_copyOf hi hj hk hn kk H locs ls gh gs gr gm f hrel hP hD hS hl
    by_cases y23 : y = (23 : Int32)
    · refine lv_tableIn (tgt := 1582) hx hb dL_law_40 (by rw [y23]; decide) (by rw [y23]; decide) (by rw [y23]; rfl) (by decide) ?_
      exact law_c23 hE h_ruling hi hj hk hn kk H locs ls gh gs gr gm f hrel hP hD hS hl
    by_cases y24 : y = (24 : Int32)
    · refine lv_tableIn (tgt := 1638) hx hb dL_law_40 (by rw [y24]; decide) (by rw [y24]; decide) (by rw [y24]; rfl) (by decide) ?_
      exact law_c24 hE h_rulingFromBelow hi hj hk hn kk H locs ls gh gs gr gm f hrel hP hD hS hl
    by_cases y25 : y = (25 : Int32)
    · refine lv_tableIn (tgt := 1694) hx hb dL_law_40 (by rw [y25]; decide) (by rw [y25]; decide) (by rw [y25]; rfl) (by decide) ?_
      exact law_c25 hE h_depth hi hj hk hn kk H locs ls gh gs gr gm f hrel hP hD hS hl
    refine lv_tableOut (x := y) (tgt := 1750) hx hb dL_law_40 (by have n0 := lv_neT (a := 0) y0 (by decide); have n1 := lv_neT (a := 1) y1 (by decide); have n2 := lv_neT (a := 2) y2 (by decide); have n3 := lv_neT (a := 3) y3 (by decide); have n4 := lv_neT (a := 4) y4 (by decide); have n5 := lv_neT (a := 5) y5 (by decide); have n6 := lv_neT (a := 6) y6 (by decide); have n7 := lv_neT (a := 7) y7 (by decide); have n8 := lv_neT (a := 8) y8 (by decide); have n9 := lv_neT (a := 9) y9 (by decide); have n10 := lv_neT (a := 10) y10 (by decide); have n11 := lv_neT (a := 11) y11 (by decide); have n12 := lv_neT (a := 12) y12 (by decide); have n13 := lv_neT (a := 13) y13 (by decide); have n14 := lv_neT (a := 14) y14 (by decide); have n15 := lv_neT (a := 15) y15 (by decide); have n16 := lv_neT (a := 16) y16 (by decide); have n17 := lv_neT (a := 17) y17 (by decide); have n18 := lv_neT (a := 18) y18 (by decide); have n19 := lv_neT (a := 19) y19 (by decide); have n20 := lv_neT (a := 20) y20 (by decide); have n21 := lv_neT (a := 21) y21 (by decide); have n22 := lv_neT (a := 22) y22 (by decide); have n23 := lv_neT (a := 23) y23 (by decide); have n24 := lv_neT (a := 24) y24 (by decide); have n25 := lv_neT (a := 25) y25 (by decide); omega) (by decide) ?_
    refine W.widen (k := k + 8) (n := n + 48) (by omega) (by omega) ?_
    exact kk H locs ls gh gs gr gm f hrel hP hD hS hl
set_option maxRecDepth 100000 in
set_option maxHeartbeats 4000000 in
theorem law_next {p : Program} {l : Launch} {e : Env} {s : State} {m : MethodId} {below : List Frame} {meth : Method} {c : Code} {b L : Nat} {xs : Nat → Int32} {dC : Nat → ClassId} {dI : Nat → Nat → Nat} {cI cJ : ClassId} {o b0 : Nat} {qh qs qr qm : Nat → Nat} {Rel : St → St → St → St → Prop} {t k n : Nat} (hE : lw_Env p l s m c b L xs dC dI cI cJ) (kk : law_at p l e s m below meth c b dC dI cI cJ o b0 qh qs qr qm Rel 23 (nI (8 * (t + 1))) k n) : law_at p l e s m below meth c b dC dI cI cJ o b0 qh qs qr qm Rel 1750 (nI (8 * t)) k n := by
  intro H locs ls gh gs gr gm f hrel hP hD hS hl
  obtain ⟨hx, hb, hml, hown, hts, hX, hbl, hK, hN, hXS, hXH, hfl, hL⟩ := id hE
  refine lv_iinc (v := nI (8 * (t + 1))) (lv' := [(4, .int (nI (8 * (t + 1)))), (3, .ref o), (2, .ref (qm 0)), (1, .ref b0), (0, .ref b)]) hx hb dL_law_1750 hl (k := 0) rfl (by rw [show (Int32.ofInt 8) = nI 8 from rfl, nI_add]; congr 1) (by decide) rfl (fun ls hl => ?_)
  refine lv_goto (tgt := 23) hx hb dL_law_1753 (by decide) ?_
  exact kk H locs ls gh gs gr gm f hrel hP hD hS hl
set_option maxRecDepth 100000 in
set_option maxHeartbeats 4000000 in
theorem law_exit {p : Program} {l : Launch} {e : Env} {s : State} {m : MethodId} {below : List Frame} {meth : Method} {c : Code} {b L : Nat} {xs : Nat → Int32} {dC : Nat → ClassId} {dI : Nat → Nat → Nat} {cI cJ : ClassId} {o b0 : Nat} {qh qs qr qm : Nat → Nat} {Rel : St → St → St → St → Prop} {x4 : Int32} {k n : Nat} (hE : lw_Env p l s m c b L xs dC dI cI cJ) (hr : meth.sig.returnType = ret) (hlocks : meth.locks = false) (hk : k ≤ 601024) (hn : n ≤ 7293034) : law_at p l e s m below meth c b dC dI cI cJ o b0 qh qs qr qm Rel 1756 x4 k n := by
  intro H locs ls gh gs gr gm f hrel hP hD hS hl
  obtain ⟨hx, hb, hml, hown, hts, hX, hbl, hK, hN, hXS, hXH, hfl, hL⟩ := id hE
  refine lv_iconst (v := 1) hx hb dL_law_1756 (by decide) ?_
  refine va_forget (fun q h => hS.2.2 q h) ?_
  refine W.widen (k := 601024) (n := 7293034) hk hn ?_
  exact lw_ret hx hb hr hlocks dL_law_1757
set_option maxRecDepth 100000 in
set_option maxHeartbeats 4000000 in
theorem law_loop {p : Program} {l : Launch} {e : Env} {s : State} {m : MethodId} {below : List Frame} {meth : Method} {c : Code} {b L : Nat} {xs : Nat → Int32} {dC : Nat → ClassId} {dI : Nat → Nat → Nat} {cI cJ : ClassId} {o b0 : Nat} {qh qs qr qm : Nat → Nat} {Rel : St → St → St → St → Prop} (hE : lw_Env p l s m c b L xs dC dI cI cJ) (hSim : SimAll Rel) (hr : meth.sig.returnType = ret) (hlocks : meth.locks = false) : ∀ (d t k n : Nat), L < 8 * (t + d + 1) → t + d ≤ 1000 → k + 8 * (d + 1) ≤ 601024 → n + 48 * (d + 1) ≤ 7293034 → law_at p l e s m below meth c b dC dI cI cJ o b0 qh qs qr qm Rel 23 (nI (8 * t)) k n := by
  intro d
  induction d with
  | zero =>
    intro t k n h1 h2 h3 h4
    exact law_step hE hSim rfl (by omega) (by omega) (by omega) (fun h => absurd h (by omega)) (law_exit hE hr hlocks (by omega) (by omega))
  | succ d ih =>
    intro t k n h1 h2 h3 h4
    exact law_step hE hSim rfl (by omega) (by omega) (by omega) (fun _ => law_next hE (ih (t + 1) (k + 8) (n + 48) (by omega) (by omega) (by omega) (by omega))) (law_exit hE hr hlocks (by omega) (by omega))
theorem nw_in : ∀ w ∈ nwL, w ∈ lw_tbl := by decide +kernel
theorem ls_i0 : (.instantiable RX0 9 : Cond) ∈ lw_tbl := by decide +kernel
theorem ls_i1 : (.instantiable RX1 5 : Cond) ∈ lw_tbl := by decide +kernel
theorem ls_i2 : (.instantiable RX2 1 : Cond) ∈ lw_tbl := by decide +kernel
theorem ls_i3 : (.instantiable RX3 11 : Cond) ∈ lw_tbl := by decide +kernel
theorem ls_i4 : (.instantiable RX4 3 : Cond) ∈ lw_tbl := by decide +kernel
theorem ls_i5 : (.instantiable RX5 33 : Cond) ∈ lw_tbl := by decide +kernel
theorem ls_a1 : (.arrayClass .int : Cond) ∈ lw_tbl := by decide +kernel
theorem ls_a2 : (.arrayClass .long : Cond) ∈ lw_tbl := by decide +kernel
theorem ls_s1 : (.stringRef RX4 194 "there is none of this number" : Cond) ∈ lw_tbl := by decide +kernel
theorem ls_s2 : (.stringRef RX4 201 "an argument is out of its range" : Cond) ∈ lw_tbl := by decide +kernel
theorem ls_s3 : (.stringRef RX4 206 "not as things stand" : Cond) ∈ lw_tbl := by decide +kernel
theorem ls_c1 : (.castable E_i E_i : Cond) ∈ lw_tbl := by decide +kernel
theorem ls_c2 : (.castable E_a E_a : Cond) ∈ lw_tbl := by decide +kernel
theorem ls_c3 : (.castable E_s E_s : Cond) ∈ lw_tbl := by decide +kernel
theorem ls_d1 : x_d1 ∈ lw_tbl := by decide +kernel
theorem ls_d2 : x_d2 ∈ lw_tbl := by decide +kernel
theorem ls_d3 : x_d3 ∈ lw_tbl := by decide +kernel
theorem ls_t1 : (.laysStatic Bundle.tN "UNASSIGNED_STACK" Bundle.steD : Cond) ∈ lw_tbl := by decide +kernel
theorem ls_t2 : (.laysStatic Bundle.tN "SUPPRESSED_SENTINEL" Bundle.listD : Cond) ∈ lw_tbl := by decide +kernel
theorem ls_t3 : (.initialized Bundle.tN : Cond) ∈ lw_tbl := by decide +kernel
theorem ls_l1 : (.classLink RL 8 RX4 : Cond) ∈ wsL_law := by decide +kernel
theorem ls_l2 : (.initialized RX4 : Cond) ∈ wsL_law := by decide +kernel
theorem ls_l3 : (.instantiable RX4 3 : Cond) ∈ wsL_law := by decide +kernel
theorem ls_l4 : (.methodLink RL 92 yX4_init : Cond) ∈ wsL_law := by decide +kernel
theorem ls_l5 : (.instanceMethod yX4_init : Cond) ∈ wsL_law := by decide +kernel
theorem ls_l6 : (.classLink RL 93 RX5 : Cond) ∈ wsL_law := by decide +kernel
theorem ls_l7 : (.initialized RX5 : Cond) ∈ wsL_law := by decide +kernel
theorem ls_l8 : (.instantiable RX5 33 : Cond) ∈ wsL_law := by decide +kernel
theorem ls_l9 : (.methodLink RL 95 yX5_init : Cond) ∈ wsL_law := by decide +kernel
theorem ls_l10 : (.instanceMethod yX5_init : Cond) ∈ wsL_law := by decide +kernel
theorem arr_of {s : State} {args : Array Value} {ty : FieldType} (h : (Cond.arrayClass ty).before args s = true) : ∃ cA : ClassId, ArrOfT s cA ty ∧ s.vm.findClass ("[" ++ ty.toString) = some cA := by
  obtain ⟨cA, kA, comp, h1, h2, h3⟩ := Cond.arrayClass_spec (args := args) (first := s) (o := none) (s := s) (idx := []) h
  exact ⟨cA, fun n z => ⟨fun k h => (by cases h), kA, h2, comp, h3⟩, h1⟩
theorem va_P_rot {D : va_G} {cl : List vw_C} {H : Heap} {w : va_W} {x : Nat × va_E} (h : va_P D cl (w ++ [x]) H) : va_P D cl (x :: w) H := by
  intro k q hk
  cases k with
  | zero => exact h w.length q (by rw [List.getElem?_append_right (Nat.le_refl _), Nat.sub_self]; exact hk)
  | succ k => exact h k q (by rw [List.getElem?_append_left (List.getElem?_eq_some_iff.mp (show w[k]? = some q from hk)).1]; exact hk)
theorem va_D_rot {A : Nat → Prop} {w : va_W} {x : Nat × va_E} (h : va_D A (w ++ [x])) : va_D A (x :: w) := by
  have g : ∀ (k : Nat) (q : Nat × va_E), (x :: w)[k]? = some q → (w ++ [x])[if k = 0 then w.length else k - 1]? = some q := by
    intro k q hk
    cases k with
    | zero =>
      rw [if_pos rfl, List.getElem?_append_right (Nat.le_refl _), Nat.sub_self]
      exact hk
    | succ k =>
      have hl := (List.getElem?_eq_some_iff.mp (show w[k]? = some q from hk)).1
      rw [if_neg (by omega), show k + 1 - 1 = k by omega, List.getElem?_append_left hl]
      exact hk
  have hw : ∀ (k : Nat) (q : Nat × va_E), (x :: w)[k]? = some q → k ≤ w.length := fun k q hk => by
    have := (List.getElem?_eq_some_iff.mp hk).1
    simp only [List.length_cons] at this
    omega
  refine ⟨fun i j a b hi hj hab => ?_, fun k q hk => h.2 _ q (g k q hk)⟩
  have e := h.1 _ _ a b (g i a hi) (g j b hj) hab
  have h1 := hw i a hi
  have h2 := hw j b hj
  by_cases c1 : i = 0
  · by_cases c2 : j = 0
    · omega
    · rw [if_pos c1, if_neg c2] at e
      omega
  · by_cases c2 : j = 0
    · rw [if_neg c1, if_pos c2] at e
      omega
    · rw [if_neg c1, if_neg c2] at e
      omega
set_option maxRecDepth 100000 in
set_option maxHeartbeats 8000000 in
/-- the law, from its entry, when each call of the class answers as the reference -/
theorem start_of {Rel : St → St → St → St → Prop} (hSim : SimAll Rel) (hRel : Rel iniX0 iniX3 iniX1 iniX5) {p : Program} {e : Env} {s : State} {m : MethodId} {below : List Frame} {meth : Method} {c : Code} (l : Launch) (hflags : l.flags = flags0) {b L : Nat} {xs : Nat → Int32} (hL : L ≤ 4096) (C0 : lw_At p s m meth c b L xs) : W p l e room_1 s m #[Value.ref b] below meth c s.heap [] 0 0 (lw_Z below #[Value.ref b] s) (entryFrame m ([Value.ref b] : List Value).toArray 7) := by
  obtain ⟨hx, hb, hr, hml, hown, hts, hX, hbl, hlocks, hgv⟩ := id C0
  have hfl : l.stackTraces = false := by rw [Launch.stackTraces, hflags]; decide +kernel
  have hs := flat_of_before _ hgv
  have hA : ∀ q : Nat, s.heap.size ≤ q → (fun q : Nat => s.heap.size ≤ q) q := fun _ h => h
  have hbA : ¬ (fun q : Nat => s.heap.size ≤ q) b := Nat.not_le.mpr hbl
  have hnA : ∀ a : Nat, a < s.heap.size → ¬ (fun q : Nat => s.heap.size ≤ q) a := fun a h => Nat.not_le.mpr h
  obtain ⟨c0, iS0, hKn0⟩ := u_known (C := RX0) (T := TX0) (N := 9) (n := 9) hts inX0 (hts _ ls_i0)
  obtain ⟨c1, iS1, hKn1⟩ := u_known (C := RX1) (T := TX1) (N := 5) (n := 5) hts inX1 (hts _ ls_i1)
  obtain ⟨c2, iS2, hKn2⟩ := u_known (C := RX2) (T := TX2) (N := 1) (n := 1) hts inX2 (hts _ ls_i2)
  obtain ⟨c3, iS3, hKn3⟩ := u_known (C := RX3) (T := TX3) (N := 11) (n := 11) hts inX3 (hts _ ls_i3)
  obtain ⟨c4, iS4, hKn4⟩ := u_known (C := RX4) (T := TX4) (N := 3) (n := 3) hts inX4 (hts _ ls_i4)
  obtain ⟨c5, iS5, hKn5⟩ := u_known (C := RX5) (T := TX5) (N := 33) (n := 33) hts inX5 (hts _ ls_i5)
  obtain ⟨dC, dI, hKc⟩ : ∃ (dC : Nat → ClassId) (dI : Nat → Nat → Nat), ∀ (k : Nat) (q : vw_C), vwCl[k]? = some q → u_Kn s q.1 q.2.1 q.2.2 (dC k) (dI k) := by
    refine ⟨fun k => if k = 0 then c0 else if k = 1 then c1 else if k = 2 then c2 else if k = 3 then c3 else if k = 4 then c4 else c5, fun k => if k = 0 then iS0 else if k = 1 then iS1 else if k = 2 then iS2 else if k = 3 then iS3 else if k = 4 then iS4 else iS5, ?_⟩
    intro k q hq
    match k, hq with
    | 0, hq => cases hq; exact hKn0
    | 1, hq => cases hq; exact hKn1
    | 2, hq => cases hq; exact hKn2
    | 3, hq => cases hq; exact hKn3
    | 4, hq => cases hq; exact hKn4
    | 5, hq => cases hq; exact hKn5
    | k + 6, hq => simp [vwCl] at hq
  obtain ⟨cI, hcI, hcI2⟩ := arr_of (hts _ ls_a1)
  obtain ⟨cJ, hcJ, hcJ2⟩ := arr_of (hts _ ls_a2)
  have hK : va_K (dC, dI) vwCl [(cI, .int), (cJ, .long)] s := ⟨hKc, fun k q h => by
    match k, h with
    | 0, h => cases h; exact ⟨hcI, hcI2⟩
    | 1, h => cases h; exact ⟨hcJ, hcJ2⟩
    | k + 2, h => simp at h⟩
  have hN : nw s := fun w hw => va_Nw.of (nw_tab w hw) (hts w (nw_in w hw))
  obtain ⟨sa1, _, _, _, hsa1, -⟩ := Cond.exactly_spec (args := #[Value.ref b]) (first := s) (o := none) (s := s) (idx := []) (t := .string "Meeplehouse" 194) (cls := "java/lang/String") (hs _ (by decide +kernel))
  obtain ⟨sa2, _, _, _, hsa2, -⟩ := Cond.exactly_spec (args := #[Value.ref b]) (first := s) (o := none) (s := s) (idx := []) (t := .string "Meeplehouse" 201) (cls := "java/lang/String") (hs _ (by decide +kernel))
  obtain ⟨sa3, _, _, _, hsa3, -⟩ := Cond.exactly_spec (args := #[Value.ref b]) (first := s) (o := none) (s := s) (idx := []) (t := .string "Meeplehouse" 206) (cls := "java/lang/String") (hs _ (by decide +kernel))
  have hXS : xeS s := ⟨⟨sa1, vk_R.of (hts _ ls_s1) hsa1⟩, ⟨sa2, vk_R.of (hts _ ls_s2) hsa2⟩, ⟨sa3, vk_R.of (hts _ ls_s3) hsa3⟩, va_Nw.of rfl (hts _ ls_c1), va_Nw.of rfl (hts _ ls_c2), va_Nw.of rfl (hts _ ls_c3), va_Nc.of (hs (Cond.not (.castable E_s E_a)) (by decide +kernel)), va_Nc.of (hs (Cond.not (.castable E_s E_i)) (by decide +kernel)), va_Nc.of (hs (Cond.not (.castable E_a E_i)) (by decide +kernel)), va_Nw.of rfl (hts _ ls_d1), va_Nw.of rfl (hts _ ls_d2), va_Nw.of rfl (hts _ ls_d3)⟩
  have hXH : xeH (fun q : Nat => s.heap.size ≤ q) s s.heap := ⟨vx_Zqof (hts _ ls_t1) (hts _ ls_t3) (hs _ (by decide +kernel)) hnA, vx_Zqof (hts _ ls_t2) (hts _ ls_t3) (hs _ (by decide +kernel)) hnA⟩
  have htl : ∀ w ∈ wsL_law, w.before #[Value.ref b] s = true := fun w h => hts w (wsL_law_in w h)
  have hown : s.vm.findClass RL = some m.cls := hown
  have hE : lw_Env p l s m c b L xs dC dI cI cJ := ⟨hx, hb, hml, hown, htl, hX, hbl, hK, hN, hXS, hXH, hfl, hL⟩
  have hS : va_S (fun q : Nat => s.heap.size ≤ q) s.heap s.heap [] := va_S.rf
  have hP : va_P (dC, dI) vwCl [] s.heap := fun k q h => by simp at h
  have hD : va_D (fun q : Nat => s.heap.size ≤ q) [] := ⟨fun i j p q h => by simp at h, fun k q h => by simp at h⟩
  have hl := lv_entry ([.ref b]) (n := 7) (Nat.le_of_ble_eq_true rfl)
  rw [lg_entry_eq]
  generalize (lg_sl ([.ref b]) ++ List.replicate (7 - (lg_sl ([.ref b])).length) Slot.unset).toArray = ls at hl ⊢
  have hl : lv_has ls 7 [(0, .ref b)] := hl
  refine va_new (ci := 4) (fs := [.null, .null, .null]) (C := RX4) (T := TX4) (N := 3) hx hb htl inlX4 tyX4 tyX4_ok hown (htl _ ls_l1) (htl _ ls_l3) (htl _ ls_l2) hK hP hD hS hA rfl (fun j hj => by rcases (show j = 0 ∨ j = 1 ∨ j = 2 by omega) with rfl | rfl | rfl <;> rfl) (Nat.le_of_ble_eq_true rfl) (Nat.le_of_ble_eq_true rfl) dL_law_0 (fun b0 H hP hD hS => ?_)
  refine W.widen (k := 1) (n := 3) (Nat.le_of_ble_eq_true rfl) (Nat.le_of_ble_eq_true rfl) ?_
  refine lv_dup hx hb dL_law_3 rfl ?_
  refine in_core (w1 := []) (wd := fun u : (Nat → Nat) × (Nat → Nat) × (Nat → Nat) => wX4 b0 u.1 u.2.1 u.2.2 cI iniX0 iniX3 iniX1) hP hD hS hA (va_runI (As := []) (rest := [.ref b0]) ⟨hx, hb, hml, hown, htl⟩ (c_X4_init l dC dI cI b0 _) (cwI 0 htl gL_law_X4_init rfl rfl rfl (htl _ ls_l2) (htl _ ls_l4) (htl _ ls_l5) rfl (by decide +kernel) ⟨Nat.le_of_ble_eq_true rfl, Nat.le_of_ble_eq_true rfl⟩) (in_pre (w1 := []) hP hD (hK.sub [0] rfl) hN) rfl rfl hl.1 rfl (lv_room (Nat.le_of_ble_eq_true rfl)) dL_law_4 ⟨Nat.le_of_ble_eq_true rfl, Nat.le_of_ble_eq_true rfl⟩) (fun u H locs hu hP hD hS => ?_)
  obtain ⟨qh, qs, qr⟩ := u
  have hP : va_P (dC, dI) vwCl (wX4 b0 qh qs qr cI iniX0 iniX3 iniX1) H := hP
  have hD : va_D (fun q : Nat => s.heap.size ≤ q) (wX4 b0 qh qs qr cI iniX0 iniX3 iniX1) := hD
  refine W.widen (k := 44) (n := 812) (Nat.le_of_ble_eq_true rfl) (Nat.le_of_ble_eq_true rfl) ?_
  refine lv_astore_n (lv' := [(1, .ref b0), (0, .ref b)]) hx hb dL_law_7 rfl hl (by decide) rfl (fun ls hl => ?_)
  refine va_new (ci := 5) (fs := [.int 0, .int 0, .null, .null, .int 0, .null, .null, .null, .null, .null, .int 0, .null, .null, .null, .null, .int 0, .null, .null, .null, .int 0, .null, .null, .null, .null, .int 0, .null, .null, .null, .null, .null, .int 0, .int 0, .int 0]) (C := RX5) (T := TX5) (N := 33) hx hb htl inlX5 tyX5 tyX5_ok hown (htl _ ls_l6) (htl _ ls_l8) (htl _ ls_l7) hK hP hD hS hA rfl (fun j hj => by rcases (show j = 0 ∨ j = 1 ∨ j = 2 ∨ j = 3 ∨ j = 4 ∨ j = 5 ∨ j = 6 ∨ j = 7 ∨ j = 8 ∨ j = 9 ∨ j = 10 ∨ j = 11 ∨ j = 12 ∨ j = 13 ∨ j = 14 ∨ j = 15 ∨ j = 16 ∨ j = 17 ∨ j = 18 ∨ j = 19 ∨ j = 20 ∨ j = 21 ∨ j = 22 ∨ j = 23 ∨ j = 24 ∨ j = 25 ∨ j = 26 ∨ j = 27 ∨ j = 28 ∨ j = 29 ∨ j = 30 ∨ j = 31 ∨ j = 32 by omega) with rfl | rfl | rfl | rfl | rfl | rfl | rfl | rfl | rfl | rfl | rfl | rfl | rfl | rfl | rfl | rfl | rfl | rfl | rfl | rfl | rfl | rfl | rfl | rfl | rfl | rfl | rfl | rfl | rfl | rfl | rfl | rfl | rfl <;> rfl) (Nat.le_of_ble_eq_true rfl) (Nat.le_of_ble_eq_true rfl) dL_law_8 (fun h5 H hP hD hS => ?_)
  refine W.widen (k := 45) (n := 845) (Nat.le_of_ble_eq_true rfl) (Nat.le_of_ble_eq_true rfl) ?_
  refine lv_dup hx hb dL_law_11 rfl ?_
  refine in_core (w1 := wX4 b0 qh qs qr cI iniX0 iniX3 iniX1) (wd := fun q => wX5 q cI iniX5) hP hD hS hA (va_runI (As := []) (rest := [.ref h5]) ⟨hx, hb, hml, hown, htl⟩ (c_X5_init l dC dI cI h5 _) (cwI 0 htl gL_law_X5_init rfl rfl rfl (htl _ ls_l7) (htl _ ls_l9) (htl _ ls_l10) rfl (by decide +kernel) ⟨Nat.le_of_ble_eq_true rfl, Nat.le_of_ble_eq_true rfl⟩) (in_pre (w1 := wX4 b0 qh qs qr cI iniX0 iniX3 iniX1) hP hD (hK.sub [0] rfl) hN) rfl rfl hl.1 rfl (lv_room (Nat.le_of_ble_eq_true rfl)) dL_law_12 ⟨Nat.le_of_ble_eq_true rfl, Nat.le_of_ble_eq_true rfl⟩) (fun qm H locs hu hP hD hS => ?_)
  refine W.widen (k := 68) (n := 1815) (Nat.le_of_ble_eq_true rfl) (Nat.le_of_ble_eq_true rfl) ?_
  refine lv_astore_n (lv' := [(2, .ref h5), (1, .ref b0), (0, .ref b)]) hx hb dL_law_15 rfl hl (by decide) rfl (fun ls hl => ?_)
  refine lv_iconst (v := 1) hx hb dL_law_16 (by decide) ?_
  refine va_newa (atype := .long) hx hb (hts _ ls_a2) (ty := .long) rfl hK hP hD hS hA (N' := 1) (a0 := (1, .inr (.inl (fun _ => 0)))) (fun cA => rfl) (n := (1 : Int32)) (by decide) (by decide) (by decide) (by exact Nat.le_of_ble_eq_true rfl) (by exact Nat.le_of_ble_eq_true rfl) dL_law_17 (fun o cA H hK1 hP hD hS => ?_)
  have h3 : cA = cJ := Option.some.inj (((hK1.2 2 _ rfl).2).symm.trans hcJ2)
  subst h3
  refine lv_astore_n (lv' := [(3, .ref o), (2, .ref h5), (1, .ref b0), (0, .ref b)]) hx hb dL_law_19 rfl hl (by decide) rfl (fun ls hl => ?_)
  refine lv_iconst (v := 0) hx hb dL_law_20 (by decide) ?_
  refine lv_istore (lv' := [(4, .int 0), (3, .ref o), (2, .ref h5), (1, .ref b0), (0, .ref b)]) hx hb dL_law_21 hl (by decide) rfl (fun ls hl => ?_)
  refine W.widen (k := 100) (n := 2000) (Nat.le_of_ble_eq_true rfl) (Nat.le_of_ble_eq_true rfl) ?_
  exact law_loop hE hSim hr hlocks 600 0 100 2000 (by omega) (by omega) (by omega) (by omega) H locs ls iniX0 iniX3 iniX1 iniX5 (fun _ => 0) hRel (va_P_rot hP) (va_D_rot hD) hS (by rw [hu]; exact hl)
