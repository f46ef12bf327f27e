/-! THE LAW: its start -/
theorem nw_in : ∀ w ∈ nwL, w ∈ lw_tbl := by decide +kernel
theorem ls_i0 : (.instantiable RX0 9 : Cond) ∈ lw_tbl := by decide +kernel
theorem ls_i1 : (.instantiable RX1 5 : Cond) ∈ lw_tbl := by decide +kernel
theorem ls_i2 : (.instantiable RX2 1 : Cond) ∈ lw_tbl := by decide +kernel
theorem ls_i3 : (.instantiable RX3 11 : Cond) ∈ lw_tbl := by decide +kernel
theorem ls_i4 : (.instantiable RX4 3 : Cond) ∈ lw_tbl := by decide +kernel
theorem ls_a1 : (.arrayClass .int : Cond) ∈ lw_tbl := by decide +kernel
theorem ls_s1 : (.stringRef RX4 194 "there is none of this number" : Cond) ∈ lw_tbl := by decide +kernel
theorem ls_s2 : (.stringRef RX4 201 "an argument is out of its range" : Cond) ∈ lw_tbl := by decide +kernel
theorem ls_s3 : (.stringRef RX4 206 "not as things stand" : Cond) ∈ lw_tbl := by decide +kernel
theorem ls_c1 : (.castable E_i E_i : Cond) ∈ lw_tbl := by decide +kernel
theorem ls_c2 : (.castable E_a E_a : Cond) ∈ lw_tbl := by decide +kernel
theorem ls_c3 : (.castable E_s E_s : Cond) ∈ lw_tbl := by decide +kernel
theorem ls_d1 : x_d1 ∈ lw_tbl := by decide +kernel
theorem ls_d2 : x_d2 ∈ lw_tbl := by decide +kernel
theorem ls_d3 : x_d3 ∈ lw_tbl := by decide +kernel
theorem ls_t1 : (.laysStatic Bundle.tN "UNASSIGNED_STACK" Bundle.steD : Cond) ∈ lw_tbl := by decide +kernel
theorem ls_t2 : (.laysStatic Bundle.tN "SUPPRESSED_SENTINEL" Bundle.listD : Cond) ∈ lw_tbl := by decide +kernel
theorem ls_t3 : (.initialized Bundle.tN : Cond) ∈ lw_tbl := by decide +kernel
theorem ls_l1 : (.classLink RL 8 RX4 : Cond) ∈ wsL_law := by decide +kernel
theorem ls_l2 : (.initialized RX4 : Cond) ∈ wsL_law := by decide +kernel
theorem ls_l3 : (.instantiable RX4 3 : Cond) ∈ wsL_law := by decide +kernel
theorem ls_l4 : (.methodLink RL 83 yX4_init : Cond) ∈ wsL_law := by decide +kernel
theorem ls_la : (.arrayClass .int : Cond) ∈ wsL_law := by decide +kernel
theorem ls_l5 : (.instanceMethod yX4_init : Cond) ∈ wsL_law := by decide +kernel
theorem arr_of {s : State} {args : Array Value} {ty : FieldType} (h : (Cond.arrayClass ty).before args s = true) : ∃ cA : ClassId, ArrOfT s cA ty ∧ s.vm.findClass ("[" ++ ty.toString) = some cA := by
  obtain ⟨cA, kA, comp, h1, h2, h3⟩ := Cond.arrayClass_spec (args := args) (first := s) (o := none) (s := s) (idx := []) h
  exact ⟨cA, fun n z => ⟨fun k h => (by cases h), kA, h2, comp, h3⟩, h1⟩
set_option maxRecDepth 100000 in
set_option maxHeartbeats 8000000 in
/-- the law, from its entry, when its body says so of a new café and new rows -/
theorem start_of {p : Program} {e : Env} {s : State} {m : MethodId} {below : List Frame} {meth : Method} {c : Code} (l : Launch) (hflags : l.flags = flags0) {b L : Nat} {xs : Nat → Int32} (hL : L ≤ 260) (C0 : lw_At p s m meth c b L xs) (hlaw : P_L_law L xs iniX0 iniX3 iniX1 (fun _ _ => 0)) : W p l e room_1 s m #[Value.ref b] below meth c s.heap [] 0 0 (lw_Z below #[Value.ref b] s) (entryFrame m ([Value.ref b] : List Value).toArray 27) := by
  obtain ⟨hx, hb, hr, hml, hown, hts, hX, hbl, hlocks, hgv⟩ := id C0
  have hfl : l.stackTraces = false := by rw [Launch.stackTraces, hflags]; decide +kernel
  have hs := flat_of_before _ hgv
  have hA : ∀ q : Nat, s.heap.size ≤ q → (fun q : Nat => s.heap.size ≤ q) q := fun _ h => h
  have hbA : ¬ (fun q : Nat => s.heap.size ≤ q) b := Nat.not_le.mpr hbl
  have hnA : ∀ a : Nat, a < s.heap.size → ¬ (fun q : Nat => s.heap.size ≤ q) a := fun a h => Nat.not_le.mpr h
  obtain ⟨c0, iS0, hKn0⟩ := u_known (C := RX0) (T := TX0) (N := 9) (n := 9) hts inX0 (hts _ ls_i0)
  obtain ⟨c1, iS1, hKn1⟩ := u_known (C := RX1) (T := TX1) (N := 5) (n := 5) hts inX1 (hts _ ls_i1)
  obtain ⟨c2, iS2, hKn2⟩ := u_known (C := RX2) (T := TX2) (N := 1) (n := 1) hts inX2 (hts _ ls_i2)
  obtain ⟨c3, iS3, hKn3⟩ := u_known (C := RX3) (T := TX3) (N := 11) (n := 11) hts inX3 (hts _ ls_i3)
  obtain ⟨c4, iS4, hKn4⟩ := u_known (C := RX4) (T := TX4) (N := 3) (n := 3) hts inX4 (hts _ ls_i4)
  obtain ⟨dC, dI, hKc⟩ : ∃ (dC : Nat → ClassId) (dI : Nat → Nat → Nat), ∀ (k : Nat) (q : vw_C), vwCl[k]? = some q → u_Kn s q.1 q.2.1 q.2.2 (dC k) (dI k) := by
    refine ⟨fun k => if k = 0 then c0 else if k = 1 then c1 else if k = 2 then c2 else if k = 3 then c3 else c4, fun k => if k = 0 then iS0 else if k = 1 then iS1 else if k = 2 then iS2 else if k = 3 then iS3 else iS4, ?_⟩
    intro k q hq
    match k, hq with
    | 0, hq => cases hq; exact hKn0
    | 1, hq => cases hq; exact hKn1
    | 2, hq => cases hq; exact hKn2
    | 3, hq => cases hq; exact hKn3
    | 4, hq => cases hq; exact hKn4
    | k + 5, hq => simp [vwCl] at hq
  obtain ⟨cI, hcI, hcI2⟩ := arr_of (hts _ ls_a1)
  have hK : va_K (dC, dI) vwCl [(cI, .int)] s := ⟨hKc, fun k q h => by
      match k, h with
      | 0, h => cases h; exact ⟨hcI, hcI2⟩
      | k + 1, h => simp at h⟩
  have hN : nw s := fun w hw => va_Nw.of (nw_tab w hw) (hts w (nw_in w hw))
  obtain ⟨sa1, _, _, _, hsa1, -⟩ := Cond.exactly_spec (args := #[Value.ref b]) (first := s) (o := none) (s := s) (idx := []) (t := .string "Meeplehouse" 194) (cls := "java/lang/String") (hs _ (by decide +kernel))
  obtain ⟨sa2, _, _, _, hsa2, -⟩ := Cond.exactly_spec (args := #[Value.ref b]) (first := s) (o := none) (s := s) (idx := []) (t := .string "Meeplehouse" 201) (cls := "java/lang/String") (hs _ (by decide +kernel))
  obtain ⟨sa3, _, _, _, hsa3, -⟩ := Cond.exactly_spec (args := #[Value.ref b]) (first := s) (o := none) (s := s) (idx := []) (t := .string "Meeplehouse" 206) (cls := "java/lang/String") (hs _ (by decide +kernel))
  have hXS : xeS s := ⟨⟨sa1, vk_R.of (hts _ ls_s1) hsa1⟩, ⟨sa2, vk_R.of (hts _ ls_s2) hsa2⟩, ⟨sa3, vk_R.of (hts _ ls_s3) hsa3⟩, va_Nw.of rfl (hts _ ls_c1), va_Nw.of rfl (hts _ ls_c2), va_Nw.of rfl (hts _ ls_c3), va_Nc.of (hs (Cond.not (.castable E_s E_i)) (by decide +kernel)), va_Nc.of (hs (Cond.not (.castable E_s E_i)) (by decide +kernel)), va_Nc.of (hs (Cond.not (.castable E_a E_i)) (by decide +kernel)), va_Nw.of rfl (hts _ ls_d1), va_Nw.of rfl (hts _ ls_d2), va_Nw.of rfl (hts _ ls_d3)⟩
  have hXH : xeH (fun q : Nat => s.heap.size ≤ q) s s.heap := ⟨vx_Zqof (hts _ ls_t1) (hts _ ls_t3) (hs _ (by decide +kernel)) hnA, vx_Zqof (hts _ ls_t2) (hts _ ls_t3) (hs _ (by decide +kernel)) hnA⟩
  have htl : ∀ w ∈ wsL_law, w.before #[Value.ref b] s = true := fun w h => hts w (wsL_law_in w h)
  have hown : s.vm.findClass RL = some m.cls := hown
  have hE : lw_Env p l s m c b L xs dC dI cI := ⟨hx, hb, hml, hown, htl, hX, hbl, hK, hN, hXS, hXH, hfl, hL⟩
  have hS : va_S (fun q : Nat => s.heap.size ≤ q) s.heap s.heap [] := va_S.rf
  have hP : va_P (dC, dI) vwCl [] s.heap := fun k q h => by simp at h
  have hD : va_D (fun q : Nat => s.heap.size ≤ q) [] := ⟨fun i j p q h => by simp at h, fun k q h => by simp at h⟩
  have hl := lv_entry ([.ref b]) (n := 27) (Nat.le_of_ble_eq_true rfl)
  rw [lg_entry_eq]
  generalize (lg_sl ([.ref b]) ++ List.replicate (27 - (lg_sl ([.ref b])).length) Slot.unset).toArray = ls at hl ⊢
  have hl : lv_has ls 27 [(0, .ref b)] := hl
  refine va_new (ci := 4) (fs := [.null, .null, .null]) (C := RX4) (T := TX4) (N := 3) hx hb htl inlX4 tyX4 tyX4_ok hown (htl _ ls_l1) (htl _ ls_l3) (htl _ ls_l2) hK hP hD hS hA rfl (fun j hj => by rcases (show j = 0 ∨ j = 1 ∨ j = 2 by omega) with rfl | rfl | rfl <;> rfl) (Nat.le_of_ble_eq_true rfl) (Nat.le_of_ble_eq_true rfl) dL_law_0 (fun b0 H hP hD hS => ?_)
  refine W.widen (k := 1) (n := 3) (Nat.le_of_ble_eq_true rfl) (Nat.le_of_ble_eq_true rfl) ?_
  refine lv_dup hx hb dL_law_3 rfl ?_
  refine in_core (w1 := []) (wd := fun u : (Nat → Nat) × (Nat → Nat) × (Nat → Nat) => wX4 b0 u.1 u.2.1 u.2.2 cI iniX0 iniX3 iniX1) hP hD hS hA (va_runI (As := []) (rest := [.ref b0]) ⟨hx, hb, hml, hown, htl⟩ (c_X4_init l dC dI cI b0 _) (cwI 0 htl gL_law_X4_init rfl rfl rfl (htl _ ls_l2) (htl _ ls_l4) (htl _ ls_l5) rfl (by decide +kernel) ⟨Nat.le_of_ble_eq_true rfl, Nat.le_of_ble_eq_true rfl⟩) (in_pre (w1 := []) hP hD hK hN) rfl rfl hl.1 rfl (lv_room (Nat.le_of_ble_eq_true rfl)) dL_law_4 ⟨Nat.le_of_ble_eq_true rfl, Nat.le_of_ble_eq_true rfl⟩) (fun u H locs hu hP hD hS => ?_)
  obtain ⟨qh, qs, qr⟩ := u
  have hP : va_P (dC, dI) vwCl (wX4 b0 qh qs qr cI iniX0 iniX3 iniX1) H := hP
  have hD : va_D (fun q : Nat => s.heap.size ≤ q) (wX4 b0 qh qs qr cI iniX0 iniX3 iniX1) := hD
  refine W.widen (k := 44) (n := 812) (Nat.le_of_ble_eq_true rfl) (Nat.le_of_ble_eq_true rfl) ?_
  refine lv_astore_n (lv' := [(1, .ref b0), (0, .ref b)]) hx hb dL_law_7 rfl hl (by decide) rfl (fun ls hl => ?_)
  refine lv_bipush (v := 10) hx hb dL_law_8 (by decide) ?_
  refine nw_int hx hb (htl _ ls_la) hK hP hD hS hA (N := 10) (by decide) (by decide) (by decide) (Nat.le_of_ble_eq_true rfl) (Nat.le_of_ble_eq_true rfl) dL_law_10 (fun o0 H hP hD hS => ?_)
  refine W.widen (k := 45) (n := 822) (Nat.le_of_ble_eq_true rfl) (Nat.le_of_ble_eq_true rfl) ?_
  refine lv_astore_n (lv' := [(2, .ref o0), (1, .ref b0), (0, .ref b)]) hx hb dL_law_12 rfl hl (by decide) rfl (fun ls hl => ?_)
  refine lv_bipush (v := 30) hx hb dL_law_13 (by decide) ?_
  refine nw_int hx hb (htl _ ls_la) hK hP hD hS hA (N := 30) (by decide) (by decide) (by decide) (Nat.le_of_ble_eq_true rfl) (Nat.le_of_ble_eq_true rfl) dL_law_15 (fun o1 H hP hD hS => ?_)
  refine W.widen (k := 46) (n := 852) (Nat.le_of_ble_eq_true rfl) (Nat.le_of_ble_eq_true rfl) ?_
  refine lv_astore_n (lv' := [(3, .ref o1), (2, .ref o0), (1, .ref b0), (0, .ref b)]) hx hb dL_law_17 rfl hl (by decide) rfl (fun ls hl => ?_)
  refine lv_bipush (v := 30) hx hb dL_law_18 (by decide) ?_
  refine nw_int hx hb (htl _ ls_la) hK hP hD hS hA (N := 30) (by decide) (by decide) (by decide) (Nat.le_of_ble_eq_true rfl) (Nat.le_of_ble_eq_true rfl) dL_law_20 (fun o2 H hP hD hS => ?_)
  refine W.widen (k := 47) (n := 882) (Nat.le_of_ble_eq_true rfl) (Nat.le_of_ble_eq_true rfl) ?_
  refine lv_astore (lv' := [(4, .ref o2), (3, .ref o1), (2, .ref o0), (1, .ref b0), (0, .ref b)]) hx hb dL_law_22 hl (by decide) rfl (fun ls hl => ?_)
  refine lv_bipush (v := 16) hx hb dL_law_24 (by decide) ?_
  refine nw_int hx hb (htl _ ls_la) hK hP hD hS hA (N := 16) (by decide) (by decide) (by decide) (Nat.le_of_ble_eq_true rfl) (Nat.le_of_ble_eq_true rfl) dL_law_26 (fun o3 H hP hD hS => ?_)
  refine W.widen (k := 48) (n := 898) (Nat.le_of_ble_eq_true rfl) (Nat.le_of_ble_eq_true rfl) ?_
  refine lv_astore (lv' := [(5, .ref o3), (4, .ref o2), (3, .ref o1), (2, .ref o0), (1, .ref b0), (0, .ref b)]) hx hb dL_law_28 hl (by decide) rfl (fun ls hl => ?_)
  refine lv_bipush (v := 32) hx hb dL_law_30 (by decide) ?_
  refine nw_int hx hb (htl _ ls_la) hK hP hD hS hA (N := 32) (by decide) (by decide) (by decide) (Nat.le_of_ble_eq_true rfl) (Nat.le_of_ble_eq_true rfl) dL_law_32 (fun o4 H hP hD hS => ?_)
  refine W.widen (k := 49) (n := 930) (Nat.le_of_ble_eq_true rfl) (Nat.le_of_ble_eq_true rfl) ?_
  refine lv_astore (lv' := [(6, .ref o4), (5, .ref o3), (4, .ref o2), (3, .ref o1), (2, .ref o0), (1, .ref b0), (0, .ref b)]) hx hb dL_law_34 hl (by decide) rfl (fun ls hl => ?_)
  refine lv_bipush (v := 24) hx hb dL_law_36 (by decide) ?_
  refine nw_int hx hb (htl _ ls_la) hK hP hD hS hA (N := 24) (by decide) (by decide) (by decide) (Nat.le_of_ble_eq_true rfl) (Nat.le_of_ble_eq_true rfl) dL_law_38 (fun o5 H hP hD hS => ?_)
  refine W.widen (k := 50) (n := 954) (Nat.le_of_ble_eq_true rfl) (Nat.le_of_ble_eq_true rfl) ?_
  refine lv_astore (lv' := [(7, .ref o5), (6, .ref o4), (5, .ref o3), (4, .ref o2), (3, .ref o1), (2, .ref o0), (1, .ref b0), (0, .ref b)]) hx hb dL_law_40 hl (by decide) rfl (fun ls hl => ?_)
  refine lv_bipush (v := 8) hx hb dL_law_42 (by decide) ?_
  refine nw_int hx hb (htl _ ls_la) hK hP hD hS hA (N := 8) (by decide) (by decide) (by decide) (Nat.le_of_ble_eq_true rfl) (Nat.le_of_ble_eq_true rfl) dL_law_44 (fun o6 H hP hD hS => ?_)
  refine W.widen (k := 51) (n := 962) (Nat.le_of_ble_eq_true rfl) (Nat.le_of_ble_eq_true rfl) ?_
  refine lv_astore (lv' := [(8, .ref o6), (7, .ref o5), (6, .ref o4), (5, .ref o3), (4, .ref o2), (3, .ref o1), (2, .ref o0), (1, .ref b0), (0, .ref b)]) hx hb dL_law_46 hl (by decide) rfl (fun ls hl => ?_)
  have ew : wLL b0 qh qs qr (qof [o0, o1, o2, o3, o4, o5, o6]) cI iniX0 iniX3 iniX1 (fun _ _ => 0) = (((((((wX4 b0 qh qs qr cI iniX0 iniX3 iniX1 ++ [(o0, .inl (cI, 10, .inl (fun _ => 0)))]) ++ [(o1, .inl (cI, 30, .inl (fun _ => 0)))]) ++ [(o2, .inl (cI, 30, .inl (fun _ => 0)))]) ++ [(o3, .inl (cI, 16, .inl (fun _ => 0)))]) ++ [(o4, .inl (cI, 32, .inl (fun _ => 0)))]) ++ [(o5, .inl (cI, 24, .inl (fun _ => 0)))]) ++ [(o6, .inl (cI, 8, .inl (fun _ => 0)))]) := by
    rw [wLL]
    simp only [List.append_assoc, List.cons_append, List.nil_append]
    rfl
  rw [← ew] at hP hD
  refine W.widen (k := 200 + 4 * 0) (n := 4000 + 24 * 0) (Nat.le_of_ble_eq_true rfl) (Nat.le_of_ble_eq_true rfl) ?_
  exact c_L_law hE hr hlocks iniX0 iniX3 iniX1 (fun _ _ => 0) hlaw H _ ls hP hD hS (lv_sub hl [8, 7, 6, 5, 4, 3, 2, 1, 0] rfl)
