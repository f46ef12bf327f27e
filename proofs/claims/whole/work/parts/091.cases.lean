/-! THE LAW'S BODY: its world; a case of the switch, a theorem -/
def wW (o : Nat) (cJ : ClassId) (f : Nat → Int64) (b0 : Nat) (qh qs qr : Nat → Nat) (cI : ClassId) (gh gs gr : St) (qm : Nat → Nat) (gm : St) : va_W := wL o cJ f b0 qh qs qr cI gh gs gr ++ wX5 qm cI gm
theorem wW_M (o : Nat) (cJ : ClassId) (f : Nat → Int64) (b0 : Nat) (qh qs qr : Nat → Nat) (cI : ClassId) (gh gs gr : St) (qm : Nat → Nat) (gm : St) : wW o cJ f b0 qh qs qr cI gh gs gr qm gm = wL o cJ f b0 qh qs qr cI gh gs gr ++ (wX5 qm cI gm ++ []) := by
  rw [wW, List.append_nil]
theorem tW4 {D : va_G} {cl : List vw_C} {H : Heap} {o : Nat} {cJ : ClassId} {f : Nat → Int64} {b0 : Nat} {qh qs qr : Nat → Nat} {cI : ClassId} {gh gs gr : St} {qm : Nat → Nat} {gm : St} (h : va_P D cl (wW o cJ f b0 qh qs qr cI gh gs gr qm gm) H) : va_P D cl (wX4 b0 qh qs qr cI gh gs gr) H := va_P_mid (w1 := [(o, .inl (cJ, 1, .inr (.inl f)))]) (w2 := wX5 qm cI gm) h
theorem tWm {D : va_G} {cl : List vw_C} {H : Heap} {o : Nat} {cJ : ClassId} {f : Nat → Int64} {b0 : Nat} {qh qs qr : Nat → Nat} {cI : ClassId} {gh gs gr : St} {qm : Nat → Nat} {gm : St} (h : va_P D cl (wW o cJ f b0 qh qs qr cI gh gs gr qm gm) H) : va_P D cl (wX5 qm cI gm) H := va_P_mid (by rw [wW_M] at h; exact h)
theorem lw_in {x : Int32} {j L : Nat} (hx : x = nI j) (k : Nat) (h : j + k < L) (hL : L ≤ 4096) : vp_in (x + nI k) L := by
  subst hx
  rw [nI_add]
  exact vp_in_nI h (by omega)
theorem lw_in0 {x : Int32} {j L : Nat} (hx : x = nI j) (h : j < L) (hL : L ≤ 4096) : vp_in x L := by
  subst hx
  exact vp_in_nI h (by omega)
theorem lw_cmp (a : Int64) : lg_cmp a a = 0 := by
  unfold lg_cmp
  rw [if_neg (by rw [gt_iff_lt, Int64.lt_iff_toInt_lt]; omega), if_pos rfl]
section TWS
variable {p : Program} {l : Launch} {e : Env} {R : Room} {s : State} {m : MethodId} {args : Array Value} {below : List Frame} {meth : Method} {c : Code} {H : Heap} {locs : List Loc} {cells slots : Nat} {Q : State → Prop}
variable {pc : Nat} {ls : Array Slot} {rest st0 : List Value} {y : MethodName} {bytes cc : ByteArray} {maxL nL n index : Nat} {ret : Option FieldType} {hh : List (Nat × Nat × Nat × Nat)} {ws : List Cond} {rm : Room} {Ts : List Cond} {own : String} {As : List Value} {D : va_G} {cl : List vw_C} {tys : List (ClassId × FieldType)} {wc w1 w2 ws0 : va_W} {mc ms : Nat} {A : Nat → Prop}
theorem tw_S {U : Type} {post : Int32 → U → Prop} {wd wsd : U → va_W} (S : CallFix p m c cc nL s args Ts own)
    (hM : Met l y ws rm (va_Pc As (tpS D cl tys wc H.size)) (va_Qi post (fun u t => wqB D cl (wd u) (va_A wc H.size) t) (va_A wc H.size)) mc ms (va_A wc H.size))
    (cw : vx_CSW R s args own index y bytes maxL ret hh ws rm mc ms n) (hP : va_P D cl ws0 H) (hD : va_D A ws0) (hS : va_S A s.heap H locs) (hA : ∀ q, s.heap.size ≤ q → A q) (hK : va_K D cl tys s) (hN : nw s) (hXS : xeS s) (hXH : xeH A s s.heap) (hw : ws0 = w1 ++ (wc ++ w2)) (hw' : ∀ u, w1 ++ (wd u ++ w2) = wsd u)
    (hst : st0 = As.reverse ++ rest) (hn : As.length = n) (hsize : ls.size = nL) (hW : (rest.map fun v => v.category).sum ≤ 8) (hf : cells + mc ≤ R.cells ∧ slots + ms ≤ R.slots) (hdg : decode cc pc = .ok (.invokestatic index, 3))
    (kk : ∀ (r : Int32) (u : U) (H1 : Heap) (locs1 : List Loc), post r u → va_P D cl (wsd u) H1 → va_D A (wsd u) → va_S A s.heap H1 locs1 → W p l e R s m args below meth c H1 locs1 (cells + mc) (slots + ms) Q (F0 m (pc + 3) ls (.int r :: rest))) : W p l e R s m args below meth c H locs cells slots Q (F0 m pc ls st0) := by
  subst hw
  have hF := va_midF hD hS hA
  have hPc : va_P D cl wc H := va_P_mid hP
  have hDc : va_D (fun _ => True) wc := ⟨fun i j x y hi hj hxy => by
    have := hD.1 (w1.length + i) (w1.length + j) x y (by rw [List.getElem?_append_right (by omega), show w1.length + i - w1.length = i by omega, List.getElem?_append_left (List.getElem?_eq_some_iff.mp hi).1]; exact hi) (by rw [List.getElem?_append_right (by omega), show w1.length + j - w1.length = j by omega, List.getElem?_append_left (List.getElem?_eq_some_iff.mp hj).1]; exact hj) hxy
    omega, fun _ _ _ => trivial⟩
  refine va_calli (vx_runSW (As := As) (rest := rest) S hM cw ⟨tp_blind, fun U hU hW => ⟨rfl, ⟨by rw [hU], by rw [hU]; exact hPc, va_K.moved hW.alike hK, nw_warm hW hN, hDc⟩, xeS_warm hW hXS, by rw [hU]; exact xeH.moved hW.alike ((hXH.kept hS.2.1).narrow hF)⟩⟩ rfl hn hsize hst (lv_room hW) hdg hf) hS (fun q _ h => hF q h) hF (fun r u t H1 locs1 ht hvm hpo hB hz hk1 hS1 => ?_)
  have hP1 := hB.1
  rw [ht] at hP1
  obtain ⟨k1, k2⟩ := va_mid hP hD hk1 hF hP1 hB.2
  rw [hw' u] at k1 k2
  exact kk r u H1 locs1 hpo k1 k2 hS1
end TWS
/-- what holds all along the law's body -/
def lw_Env (p : Program) (l : Launch) (s : State) (m : MethodId) (c : Code) (b L : Nat) (xs : Nat → Int32) (dC : Nat → ClassId) (dI : Nat → Nat → Nat) (cI cJ : ClassId) : Prop :=
  p.tables.exec = Jvm.exec ∧ c.code = cL_law ∧ c.maxLocals = 7 ∧ s.vm.findClass RL = some m.cls ∧ (∀ w ∈ wsL_law, w.before #[Value.ref b] s = true) ∧ va_X b L xs s s.heap ∧ b < s.heap.size ∧ va_K (dC, dI) vwCl [(cI, .int), (cJ, .long)] s ∧ nw s ∧ xeS s ∧ xeH (fun q : Nat => s.heap.size ≤ q) s s.heap ∧ l.stackTraces = false ∧ L ≤ 4096
def law_at (p : Program) (l : Launch) (e : Env) (s : State) (m : MethodId) (below : List Frame) (meth : Method) (c : Code) (b : Nat) (dC : Nat → ClassId) (dI : Nat → Nat → Nat) (cI cJ : ClassId) (o b0 : Nat) (qh qs qr qm : Nat → Nat) (Rel : St → St → St → St → Prop) (pc : Nat) (x4 : Int32) (k n : Nat) : Prop :=
  ∀ (H : Heap) (locs : List Loc) (ls : Array Slot) (gh gs gr gm : St) (f : Nat → Int64), Rel gh gs gr gm → va_P (dC, dI) vwCl (wW o cJ f b0 qh qs qr cI gh gs gr qm gm) H → va_D (fun q : Nat => s.heap.size ≤ q) (wW o cJ f b0 qh qs qr cI gh gs gr qm gm) → va_S (fun q : Nat => s.heap.size ≤ q) s.heap H locs → lv_has ls 7 [(4, .int x4), (3, .ref o), (2, .ref (qm 0)), (1, .ref b0), (0, .ref b)] →
    W p l e room_1 s m #[Value.ref b] below meth c H locs k n (lw_Z below #[Value.ref b] s) (F0 m pc ls [])
def Sim_pass (Rel : St → St → St → St → Prop) : Prop := ∀ (gh gs gr gm : St) (a1 : Int32), Rel gh gs gr gm → ∃ (b6 : Int32) (gm' : St), P_X5_pass gm a1 b6 gm' ∧ P_X4_pass gh gs gr a1 (fun (r : Int32) (gh' gs' gr' : St) => gm' 0 0 = 0 ∧ r = b6 ∧ Rel gh' gs' gr' gm') (fun E : String => (E = E_a ∧ (gm' 0 0 = 1 ∧ ¬ (1 : Int32) = 0 ∧ Rel gh gs gr gm')) ∨ (E = E_s ∧ (gm' 0 0 = 2 ∧ ¬ (2 : Int32) = 0 ∧ Rel gh gs gr gm')))
set_option maxRecDepth 100000 in
set_option maxHeartbeats 4000000 in
theorem law_c0 {p : Program} {l : Launch} {e : Env} {s : State} {m : MethodId} {below : List Frame} {meth : Method} {c : Code} {b L : Nat} {xs : Nat → Int32} {dC : Nat → ClassId} {dI : Nat → Nat → Nat} {cI cJ : ClassId} {o b0 : Nat} {qh qs qr qm : Nat → Nat} {Rel : St → St → St → St → Prop} {x4 : Int32} {k n : Nat} (hE : lw_Env p l s m c b L xs dC dI cI cJ) (hSim : Sim_pass Rel) {j : Nat} (hi : x4 = nI j) (hj : j + 8 ≤ L) (hk : k + 8 ≤ 601024) (hn : n + 48 ≤ 7293034) (kk : law_at p l e s m below meth c b dC dI cI cJ o b0 qh qs qr qm Rel 1750 x4 (k + 8) (n + 48)) : law_at p l e s m below meth c b dC dI cI cJ o b0 qh qs qr qm Rel 160 x4 k n := by
  intro H locs ls gh gs gr gm f hrel hP hD hS hl
  obtain ⟨hx, hb, hml, hown, hts, hX, hbl, hK, hN, hXS, hXH, hfl, hL⟩ := id hE
  have hA : ∀ q : Nat, s.heap.size ≤ q → (fun q : Nat => s.heap.size ≤ q) q := fun _ h => h
  have hbA : ¬ (fun q : Nat => s.heap.size ≤ q) b := Nat.not_le.mpr hbl
  obtain ⟨b6, gm', hm6, hx6⟩ := hSim gh gs gr gm (xs (x4 + (1 : Int32)).toNatClampNeg) hrel
  refine lv_aload_n hx hb dL_law_160 rfl (lv_at hl 3 rfl) ?_
  refine lv_aload_n hx hb dL_law_161 rfl (lv_at hl 4 rfl) ?_
  refine lv_iload hx hb dL_law_162 (lv_at hl 0 rfl) ?_
  refine lv_iconst (v := 1) hx hb dL_law_164 (by decide) ?_
  refine lv_iadd hx hb dL_law_165 ?_
  refine va_sld hx hb hX hbl hbA hS (lw_in hi 1 (by omega) hL) dL_law_166 ?_
  refine lv_aload_n hx hb dL_law_167 rfl (lv_at hl 1 rfl) ?_
  refine tw_S (As := [.ref b0, .int (xs (x4 + (1 : Int32)).toNatClampNeg), .ref o]) (rest := []) (w1 := []) (w2 := wX5 qm cI gm) (wsd := fun u : St × St × St × (Nat → Int64) => wW o cJ u.2.2.2 b0 qh qs qr cI u.1 u.2.1 u.2.2.1 qm gm) ⟨hx, hb, hml, hown, hts⟩ (c_L_pass l hfl dC dI cI cJ o f b0 qh qs qr gh gs gr (xs (x4 + (1 : Int32)).toNatClampNeg) (fun (r : Int32) (gh' gs' gr' : St) => gm' 0 0 = 0 ∧ r = b6 ∧ Rel gh' gs' gr' gm') (fun k : Int32 => gm' 0 0 = k ∧ ¬ k = 0 ∧ Rel gh gs gr gm') hx6 _) (vx_cwSW 3 hts gL_law_L_pass rfl rfl rfl (by decide +kernel) ⟨Nat.le_of_ble_eq_true rfl, Nat.le_of_ble_eq_true rfl⟩) hP hD hS hA hK hN hXS hXH rfl (fun u => rfl) rfl rfl hl.1 (Nat.le_of_ble_eq_true rfl) ⟨by show _ ≤ 601024; omega, by show _ ≤ 7293034; omega⟩ dL_law_168 (fun k5 u H locs hk5 hP hD hS => ?_)
  obtain ⟨uh, us, ur, uf⟩ := u
  refine lv_istore (lv' := [(5, .int k5), (4, .int x4), (3, .ref o), (2, .ref (qm 0)), (1, .ref b0), (0, .ref b)]) hx hb dL_law_171 hl (by decide) rfl (fun ls hl => ?_)
  refine lv_aload_n hx hb dL_law_173 rfl (lv_at hl 3 rfl) ?_
  refine lv_aload_n hx hb dL_law_174 rfl (lv_at hl 5 rfl) ?_
  refine lv_iload hx hb dL_law_175 (lv_at hl 1 rfl) ?_
  refine lv_iconst (v := 1) hx hb dL_law_177 (by decide) ?_
  refine lv_iadd hx hb dL_law_178 ?_
  refine va_sld hx hb hX hbl hbA hS (lw_in hi 1 (by omega) hL) dL_law_179 ?_
  refine wr_Vi (As := [.int (xs (x4 + (1 : Int32)).toNatClampNeg)]) (rest := []) (w1 := wL o cJ uf b0 qh qs qr cI uh us ur) (w2 := []) (ws1 := wW o cJ uf b0 qh qs qr cI uh us ur qm gm') ⟨hx, hb, hml, hown, hts⟩ (c_X5_pass l dC dI cI qm gm (xs (x4 + (1 : Int32)).toNatClampNeg) b6 gm' hm6 _) (cwV 1 hts gL_law_X5_pass rfl rfl rfl (by decide +kernel) ⟨Nat.le_of_ble_eq_true rfl, Nat.le_of_ble_eq_true rfl⟩) hP hD hS hA (hK.sub [0] rfl) hN (wW_M o cJ uf b0 qh qs qr cI uh us ur qm gm) (wW_M o cJ uf b0 qh qs qr cI uh us ur qm gm').symm rfl rfl rfl rfl hl.1 (Nat.le_of_ble_eq_true rfl) ⟨by show _ ≤ 601024; omega, by show _ ≤ 7293034; omega⟩ dL_law_180 (fun H locs hP hD hS => ?_)
  refine lv_istore (lv' := [(6, .int b6), (5, .int k5), (4, .int x4), (3, .ref o), (2, .ref (qm 0)), (1, .ref b0), (0, .ref b)]) hx hb dL_law_183 hl (by decide) rfl (fun ls hl => ?_)
  refine lv_aload_n hx hb dL_law_185 rfl (lv_at hl 4 rfl) ?_
  refine ro_V (As := []) (rest := []) ⟨hx, hb, hml, hown, hts⟩ (c_X5_thrown l dC dI cI qm gm' (gm' 0 0) rfl) (cwV 0 hts gL_law_X5_thrown rfl rfl rfl (by decide +kernel) ⟨Nat.le_of_ble_eq_true rfl, Nat.le_of_ble_eq_true rfl⟩) (tWm hP) (hK.sub [0] rfl) hN rfl rfl rfl rfl hl.1 (Nat.le_of_ble_eq_true rfl) ⟨by show _ ≤ 601024; omega, by show _ ≤ 7293034; omega⟩ dL_law_186 ?_
  refine lv_iload hx hb dL_law_189 (lv_at hl 1 rfl) ?_
  refine lv_icmp_eq (tgt := 196) hx hb dL_law_191 (by decide) (fun ceq => ?_) (fun ceq => ?_)
  · refine lv_iload hx hb dL_law_196 (lv_at hl 1 rfl) ?_
    refine lv_if_ne (tgt := 213) hx hb dL_law_198 (by decide) (fun c5 => ?_) (fun c5 => ?_)
    · rcases hk5 with ⟨hk0, -⟩ | ⟨⟨-, -, hrel6⟩, hu⟩
      · exact absurd hk0 c5
      · cases hu
        refine lv_goto (tgt := 1750) hx hb dL_law_213 (by decide) ?_
        refine W.widen (k := k + 8) (n := n + 48) (by omega) (by omega) ?_
        exact kk _ _ _ gh gs gr gm' f hrel6 hP hD hS (lv_sub hl [2, 3, 4, 5, 6] rfl)
    · rcases hk5 with ⟨hk0, r6, hout, ht0, hr6, hrel6⟩ | ⟨⟨-, hne, -⟩, hu⟩
      · refine lv_aload_n hx hb dL_law_201 rfl (lv_at hl 3 rfl) ?_
        refine lv_iconst (v := 0) hx hb dL_law_202 (by decide) ?_
        refine va_lald hx hb hK hP 0 1 rfl rfl vp01 dL_law_203 ?_
        refine lv_iload hx hb dL_law_204 (lv_at hl 0 rfl) ?_
        refine lv_i2l hx hb dL_law_206 rfl ?_
        refine W.lcmp hx hb dL_law_207 ?_
        refine lv_if_eq (tgt := 213) hx hb dL_law_208 (by decide) (fun c6 => ?_) (fun c6 => ?_)
        · refine lv_goto (tgt := 1750) hx hb dL_law_213 (by decide) ?_
          refine W.widen (k := k + 8) (n := n + 48) (by omega) (by omega) ?_
          exact kk _ _ _ uh us ur gm' uf hrel6 hP hD hS (lv_sub hl [2, 3, 4, 5, 6] rfl)
        · exact absurd (by rw [show uf (0 : Int32).toNatClampNeg = r6.toInt64 from hout, hr6]; exact lw_cmp _) c6
      · exact absurd c5 hne
  · rcases hk5 with ⟨hk0, r6, hout, ht0, hr6, hrel6⟩ | ⟨⟨he6, -, -⟩, hu⟩
    · exact absurd (ht0.trans hk0.symm) ceq
    · exact absurd he6 ceq
def Sim_now (Rel : St → St → St → St → Prop) : Prop := ∀ (gh gs gr gm : St), Rel gh gs gr gm → ∃ (b6 : Int32) (gm' : St), P_X5_now gm b6 gm' ∧ P_X4_now gh gs gr b6 ∧ Rel gh gs gr gm'
set_option maxRecDepth 100000 in
set_option maxHeartbeats 4000000 in
theorem law_c1 {p : Program} {l : Launch} {e : Env} {s : State} {m : MethodId} {below : List Frame} {meth : Method} {c : Code} {b L : Nat} {xs : Nat → Int32} {dC : Nat → ClassId} {dI : Nat → Nat → Nat} {cI cJ : ClassId} {o b0 : Nat} {qh qs qr qm : Nat → Nat} {Rel : St → St → St → St → Prop} {x4 : Int32} {k n : Nat} (hE : lw_Env p l s m c b L xs dC dI cI cJ) (hSim : Sim_now Rel) {j : Nat} (hi : x4 = nI j) (hj : j + 8 ≤ L) (hk : k + 8 ≤ 601024) (hn : n + 48 ≤ 7293034) (kk : law_at p l e s m below meth c b dC dI cI cJ o b0 qh qs qr qm Rel 1750 x4 (k + 8) (n + 48)) : law_at p l e s m below meth c b dC dI cI cJ o b0 qh qs qr qm Rel 216 x4 k n := by
  intro H locs ls gh gs gr gm f hrel hP hD hS hl
  obtain ⟨hx, hb, hml, hown, hts, hX, hbl, hK, hN, hXS, hXH, hfl, hL⟩ := id hE
  have hA : ∀ q : Nat, s.heap.size ≤ q → (fun q : Nat => s.heap.size ≤ q) q := fun _ h => h
  have hbA : ¬ (fun q : Nat => s.heap.size ≤ q) b := Nat.not_le.mpr hbl
  obtain ⟨b6, gm', hm6, hx6, hrel6⟩ := hSim gh gs gr gm hrel
  refine lv_aload_n hx hb dL_law_216 rfl (lv_at hl 3 rfl) ?_
  refine ro_V (As := []) (rest := []) ⟨hx, hb, hml, hown, hts⟩ (c_X4_now l dC dI cI b0 qh qs qr gh gs gr b6 hx6) (cwV 0 hts gL_law_X4_now rfl rfl rfl (by decide +kernel) ⟨Nat.le_of_ble_eq_true rfl, Nat.le_of_ble_eq_true rfl⟩) (tW4 hP) (hK.sub [0] rfl) hN rfl rfl rfl rfl hl.1 (Nat.le_of_ble_eq_true rfl) ⟨by show _ ≤ 601024; omega, by show _ ≤ 7293034; omega⟩ dL_law_217 ?_
  refine lv_aload_n hx hb dL_law_220 rfl (lv_at hl 2 rfl) ?_
  refine wr_Vi (As := []) (rest := [.int b6]) (w1 := wL o cJ f b0 qh qs qr cI gh gs gr) (w2 := []) (ws1 := wW o cJ f b0 qh qs qr cI gh gs gr qm gm') ⟨hx, hb, hml, hown, hts⟩ (c_X5_now l dC dI cI qm gm b6 gm' hm6 _) (cwV 0 hts gL_law_X5_now rfl rfl rfl (by decide +kernel) ⟨Nat.le_of_ble_eq_true rfl, Nat.le_of_ble_eq_true rfl⟩) hP hD hS hA (hK.sub [0] rfl) hN (wW_M o cJ f b0 qh qs qr cI gh gs gr qm gm) (wW_M o cJ f b0 qh qs qr cI gh gs gr qm gm').symm rfl rfl rfl rfl hl.1 (Nat.le_of_ble_eq_true rfl) ⟨by show _ ≤ 601024; omega, by show _ ≤ 7293034; omega⟩ dL_law_221 (fun H locs hP hD hS => ?_)
  refine lv_icmp_eq (tgt := 1750) hx hb dL_law_224 (by decide) (fun ceq => ?_) (fun ceq => ?_)
  · refine W.widen (k := k + 8) (n := n + 48) (by omega) (by omega) ?_
    exact kk _ _ _ gh gs gr gm' f hrel6 hP hD hS (lv_sub hl [0, 1, 2, 3, 4] rfl)
  · exact absurd rfl ceq
def Sim_addTable (Rel : St → St → St → St → Prop) : Prop := ∀ (gh gs gr gm : St) (a1 : Int32), Rel gh gs gr gm → ∃ (b6 : Int32) (gm' : St), P_X5_addTable gm a1 b6 gm' ∧ P_X4_addTable gh gs gr a1 (fun (r : Int32) (gh' gs' gr' : St) => gm' 0 0 = 0 ∧ r = b6 ∧ Rel gh' gs' gr' gm') (fun E : String => (E = E_a ∧ (gm' 0 0 = 1 ∧ ¬ (1 : Int32) = 0 ∧ Rel gh gs gr gm')) ∨ (E = E_s ∧ (gm' 0 0 = 2 ∧ ¬ (2 : Int32) = 0 ∧ Rel gh gs gr gm')))
set_option maxRecDepth 100000 in
set_option maxHeartbeats 4000000 in
theorem law_c2 {p : Program} {l : Launch} {e : Env} {s : State} {m : MethodId} {below : List Frame} {meth : Method} {c : Code} {b L : Nat} {xs : Nat → Int32} {dC : Nat → ClassId} {dI : Nat → Nat → Nat} {cI cJ : ClassId} {o b0 : Nat} {qh qs qr qm : Nat → Nat} {Rel : St → St → St → St → Prop} {x4 : Int32} {k n : Nat} (hE : lw_Env p l s m c b L xs dC dI cI cJ) (hSim : Sim_addTable Rel) {j : Nat} (hi : x4 = nI j) (hj : j + 8 ≤ L) (hk : k + 8 ≤ 601024) (hn : n + 48 ≤ 7293034) (kk : law_at p l e s m below meth c b dC dI cI cJ o b0 qh qs qr qm Rel 1750 x4 (k + 8) (n + 48)) : law_at p l e s m below meth c b dC dI cI cJ o b0 qh qs qr qm Rel 229 x4 k n := by
  intro H locs ls gh gs gr gm f hrel hP hD hS hl
  obtain ⟨hx, hb, hml, hown, hts, hX, hbl, hK, hN, hXS, hXH, hfl, hL⟩ := id hE
  have hA : ∀ q : Nat, s.heap.size ≤ q → (fun q : Nat => s.heap.size ≤ q) q := fun _ h => h
  have hbA : ¬ (fun q : Nat => s.heap.size ≤ q) b := Nat.not_le.mpr hbl
  obtain ⟨b6, gm', hm6, hx6⟩ := hSim gh gs gr gm (xs (x4 + (1 : Int32)).toNatClampNeg) hrel
  refine lv_aload_n hx hb dL_law_229 rfl (lv_at hl 3 rfl) ?_
  refine lv_aload_n hx hb dL_law_230 rfl (lv_at hl 4 rfl) ?_
  refine lv_iload hx hb dL_law_231 (lv_at hl 0 rfl) ?_
  refine lv_iconst (v := 1) hx hb dL_law_233 (by decide) ?_
  refine lv_iadd hx hb dL_law_234 ?_
  refine va_sld hx hb hX hbl hbA hS (lw_in hi 1 (by omega) hL) dL_law_235 ?_
  refine lv_aload_n hx hb dL_law_236 rfl (lv_at hl 1 rfl) ?_
  refine tw_S (As := [.ref b0, .int (xs (x4 + (1 : Int32)).toNatClampNeg), .ref o]) (rest := []) (w1 := []) (w2 := wX5 qm cI gm) (wsd := fun u : St × St × St × (Nat → Int64) => wW o cJ u.2.2.2 b0 qh qs qr cI u.1 u.2.1 u.2.2.1 qm gm) ⟨hx, hb, hml, hown, hts⟩ (c_L_addTable l hfl dC dI cI cJ o f b0 qh qs qr gh gs gr (xs (x4 + (1 : Int32)).toNatClampNeg) (fun (r : Int32) (gh' gs' gr' : St) => gm' 0 0 = 0 ∧ r = b6 ∧ Rel gh' gs' gr' gm') (fun k : Int32 => gm' 0 0 = k ∧ ¬ k = 0 ∧ Rel gh gs gr gm') hx6 _) (vx_cwSW 3 hts gL_law_L_addTable rfl rfl rfl (by decide +kernel) ⟨Nat.le_of_ble_eq_true rfl, Nat.le_of_ble_eq_true rfl⟩) hP hD hS hA hK hN hXS hXH rfl (fun u => rfl) rfl rfl hl.1 (Nat.le_of_ble_eq_true rfl) ⟨by show _ ≤ 601024; omega, by show _ ≤ 7293034; omega⟩ dL_law_237 (fun k5 u H locs hk5 hP hD hS => ?_)
  obtain ⟨uh, us, ur, uf⟩ := u
  refine lv_istore (lv' := [(5, .int k5), (4, .int x4), (3, .ref o), (2, .ref (qm 0)), (1, .ref b0), (0, .ref b)]) hx hb dL_law_240 hl (by decide) rfl (fun ls hl => ?_)
  refine lv_aload_n hx hb dL_law_242 rfl (lv_at hl 3 rfl) ?_
  refine lv_aload_n hx hb dL_law_243 rfl (lv_at hl 5 rfl) ?_
  refine lv_iload hx hb dL_law_244 (lv_at hl 1 rfl) ?_
  refine lv_iconst (v := 1) hx hb dL_law_246 (by decide) ?_
  refine lv_iadd hx hb dL_law_247 ?_
  refine va_sld hx hb hX hbl hbA hS (lw_in hi 1 (by omega) hL) dL_law_248 ?_
  refine wr_Vi (As := [.int (xs (x4 + (1 : Int32)).toNatClampNeg)]) (rest := []) (w1 := wL o cJ uf b0 qh qs qr cI uh us ur) (w2 := []) (ws1 := wW o cJ uf b0 qh qs qr cI uh us ur qm gm') ⟨hx, hb, hml, hown, hts⟩ (c_X5_addTable l dC dI cI qm gm (xs (x4 + (1 : Int32)).toNatClampNeg) b6 gm' hm6 _) (cwV 1 hts gL_law_X5_addTable rfl rfl rfl (by decide +kernel) ⟨Nat.le_of_ble_eq_true rfl, Nat.le_of_ble_eq_true rfl⟩) hP hD hS hA (hK.sub [0] rfl) hN (wW_M o cJ uf b0 qh qs qr cI uh us ur qm gm) (wW_M o cJ uf b0 qh qs qr cI uh us ur qm gm').symm rfl rfl rfl rfl hl.1 (Nat.le_of_ble_eq_true rfl) ⟨by show _ ≤ 601024; omega, by show _ ≤ 7293034; omega⟩ dL_law_249 (fun H locs hP hD hS => ?_)
  refine lv_istore (lv' := [(6, .int b6), (5, .int k5), (4, .int x4), (3, .ref o), (2, .ref (qm 0)), (1, .ref b0), (0, .ref b)]) hx hb dL_law_252 hl (by decide) rfl (fun ls hl => ?_)
  refine lv_aload_n hx hb dL_law_254 rfl (lv_at hl 4 rfl) ?_
  refine ro_V (As := []) (rest := []) ⟨hx, hb, hml, hown, hts⟩ (c_X5_thrown l dC dI cI qm gm' (gm' 0 0) rfl) (cwV 0 hts gL_law_X5_thrown rfl rfl rfl (by decide +kernel) ⟨Nat.le_of_ble_eq_true rfl, Nat.le_of_ble_eq_true rfl⟩) (tWm hP) (hK.sub [0] rfl) hN rfl rfl rfl rfl hl.1 (Nat.le_of_ble_eq_true rfl) ⟨by show _ ≤ 601024; omega, by show _ ≤ 7293034; omega⟩ dL_law_255 ?_
  refine lv_iload hx hb dL_law_258 (lv_at hl 1 rfl) ?_
  refine lv_icmp_eq (tgt := 265) hx hb dL_law_260 (by decide) (fun ceq => ?_) (fun ceq => ?_)
  · refine lv_iload hx hb dL_law_265 (lv_at hl 1 rfl) ?_
    refine lv_if_ne (tgt := 282) hx hb dL_law_267 (by decide) (fun c5 => ?_) (fun c5 => ?_)
    · rcases hk5 with ⟨hk0, -⟩ | ⟨⟨-, -, hrel6⟩, hu⟩
      · exact absurd hk0 c5
      · cases hu
        refine lv_goto (tgt := 1750) hx hb dL_law_282 (by decide) ?_
        refine W.widen (k := k + 8) (n := n + 48) (by omega) (by omega) ?_
        exact kk _ _ _ gh gs gr gm' f hrel6 hP hD hS (lv_sub hl [2, 3, 4, 5, 6] rfl)
    · rcases hk5 with ⟨hk0, r6, hout, ht0, hr6, hrel6⟩ | ⟨⟨-, hne, -⟩, hu⟩
      · refine lv_aload_n hx hb dL_law_270 rfl (lv_at hl 3 rfl) ?_
        refine lv_iconst (v := 0) hx hb dL_law_271 (by decide) ?_
        refine va_lald hx hb hK hP 0 1 rfl rfl vp01 dL_law_272 ?_
        refine lv_iload hx hb dL_law_273 (lv_at hl 0 rfl) ?_
        refine lv_i2l hx hb dL_law_275 rfl ?_
        refine W.lcmp hx hb dL_law_276 ?_
        refine lv_if_eq (tgt := 282) hx hb dL_law_277 (by decide) (fun c6 => ?_) (fun c6 => ?_)
        · refine lv_goto (tgt := 1750) hx hb dL_law_282 (by decide) ?_
          refine W.widen (k := k + 8) (n := n + 48) (by omega) (by omega) ?_
          exact kk _ _ _ uh us ur gm' uf hrel6 hP hD hS (lv_sub hl [2, 3, 4, 5, 6] rfl)
        · exact absurd (by rw [show uf (0 : Int32).toNatClampNeg = r6.toInt64 from hout, hr6]; exact lw_cmp _) c6
      · exact absurd c5 hne
  · rcases hk5 with ⟨hk0, r6, hout, ht0, hr6, hrel6⟩ | ⟨⟨he6, -, -⟩, hu⟩
    · exact absurd (ht0.trans hk0.symm) ceq
    · exact absurd he6 ceq
def Sim_addTitle (Rel : St → St → St → St → Prop) : Prop := ∀ (gh gs gr gm : St) (a1 : Int32) (a2 : Int32) (a3 : Int32) (a4 : Int32) (a5 : Int32) (a6 : Int32) (a7 : Int32), Rel gh gs gr gm → ∃ (b6 : Int32) (gm' : St), P_X5_addTitle gm a1 a2 a3 a4 a5 a6 a7 b6 gm' ∧ P_X4_addTitle gh gs gr a1 a2 a3 a4 a5 a6 a7 (fun (r : Int32) (gh' gs' gr' : St) => gm' 0 0 = 0 ∧ r = b6 ∧ Rel gh' gs' gr' gm') (fun E : String => (E = E_a ∧ (gm' 0 0 = 1 ∧ ¬ (1 : Int32) = 0 ∧ Rel gh gs gr gm')) ∨ (E = E_s ∧ (gm' 0 0 = 2 ∧ ¬ (2 : Int32) = 0 ∧ Rel gh gs gr gm')))
set_option maxRecDepth 100000 in
set_option maxHeartbeats 4000000 in
theorem law_c3 {p : Program} {l : Launch} {e : Env} {s : State} {m : MethodId} {below : List Frame} {meth : Method} {c : Code} {b L : Nat} {xs : Nat → Int32} {dC : Nat → ClassId} {dI : Nat → Nat → Nat} {cI cJ : ClassId} {o b0 : Nat} {qh qs qr qm : Nat → Nat} {Rel : St → St → St → St → Prop} {x4 : Int32} {k n : Nat} (hE : lw_Env p l s m c b L xs dC dI cI cJ) (hSim : Sim_addTitle Rel) {j : Nat} (hi : x4 = nI j) (hj : j + 8 ≤ L) (hk : k + 8 ≤ 601024) (hn : n + 48 ≤ 7293034) (kk : law_at p l e s m below meth c b dC dI cI cJ o b0 qh qs qr qm Rel 1750 x4 (k + 8) (n + 48)) : law_at p l e s m below meth c b dC dI cI cJ o b0 qh qs qr qm Rel 285 x4 k n := by
  intro H locs ls gh gs gr gm f hrel hP hD hS hl
  obtain ⟨hx, hb, hml, hown, hts, hX, hbl, hK, hN, hXS, hXH, hfl, hL⟩ := id hE
  have hA : ∀ q : Nat, s.heap.size ≤ q → (fun q : Nat => s.heap.size ≤ q) q := fun _ h => h
  have hbA : ¬ (fun q : Nat => s.heap.size ≤ q) b := Nat.not_le.mpr hbl
  obtain ⟨b6, gm', hm6, hx6⟩ := hSim gh gs gr gm (xs (x4 + (1 : Int32)).toNatClampNeg) (xs (x4 + (2 : Int32)).toNatClampNeg) (xs (x4 + (3 : Int32)).toNatClampNeg) (xs (x4 + (4 : Int32)).toNatClampNeg) (xs (x4 + (5 : Int32)).toNatClampNeg) (xs (x4 + (6 : Int32)).toNatClampNeg) (xs (x4 + (7 : Int32)).toNatClampNeg) hrel
  refine lv_aload_n hx hb dL_law_285 rfl (lv_at hl 3 rfl) ?_
  refine lv_aload_n hx hb dL_law_286 rfl (lv_at hl 4 rfl) ?_
  refine lv_iload hx hb dL_law_287 (lv_at hl 0 rfl) ?_
  refine lv_iconst (v := 1) hx hb dL_law_289 (by decide) ?_
  refine lv_iadd hx hb dL_law_290 ?_
  refine va_sld hx hb hX hbl hbA hS (lw_in hi 1 (by omega) hL) dL_law_291 ?_
  refine lv_aload_n hx hb dL_law_292 rfl (lv_at hl 4 rfl) ?_
  refine lv_iload hx hb dL_law_293 (lv_at hl 0 rfl) ?_
  refine lv_iconst (v := 2) hx hb dL_law_295 (by decide) ?_
  refine lv_iadd hx hb dL_law_296 ?_
  refine va_sld hx hb hX hbl hbA hS (lw_in hi 2 (by omega) hL) dL_law_297 ?_
  refine lv_aload_n hx hb dL_law_298 rfl (lv_at hl 4 rfl) ?_
  refine lv_iload hx hb dL_law_299 (lv_at hl 0 rfl) ?_
  refine lv_iconst (v := 3) hx hb dL_law_301 (by decide) ?_
  refine lv_iadd hx hb dL_law_302 ?_
  refine va_sld hx hb hX hbl hbA hS (lw_in hi 3 (by omega) hL) dL_law_303 ?_
  refine lv_aload_n hx hb dL_law_304 rfl (lv_at hl 4 rfl) ?_
  refine lv_iload hx hb dL_law_305 (lv_at hl 0 rfl) ?_
  refine lv_iconst (v := 4) hx hb dL_law_307 (by decide) ?_
  refine lv_iadd hx hb dL_law_308 ?_
  refine va_sld hx hb hX hbl hbA hS (lw_in hi 4 (by omega) hL) dL_law_309 ?_
  refine lv_aload_n hx hb dL_law_310 rfl (lv_at hl 4 rfl) ?_
  refine lv_iload hx hb dL_law_311 (lv_at hl 0 rfl) ?_
  refine lv_iconst (v := 5) hx hb dL_law_313 (by decide) ?_
  refine lv_iadd hx hb dL_law_314 ?_
  refine va_sld hx hb hX hbl hbA hS (lw_in hi 5 (by omega) hL) dL_law_315 ?_
  refine lv_aload_n hx hb dL_law_316 rfl (lv_at hl 4 rfl) ?_
  refine lv_iload hx hb dL_law_317 (lv_at hl 0 rfl) ?_
  refine lv_bipush (v := 6) hx hb dL_law_319 (by decide) ?_
  refine lv_iadd hx hb dL_law_321 ?_
  refine va_sld hx hb hX hbl hbA hS (lw_in hi 6 (by omega) hL) dL_law_322 ?_
  refine lv_aload_n hx hb dL_law_323 rfl (lv_at hl 4 rfl) ?_
  refine lv_iload hx hb dL_law_324 (lv_at hl 0 rfl) ?_
  refine lv_bipush (v := 7) hx hb dL_law_326 (by decide) ?_
  refine lv_iadd hx hb dL_law_328 ?_
  refine va_sld hx hb hX hbl hbA hS (lw_in hi 7 (by omega) hL) dL_law_329 ?_
  refine lv_aload_n hx hb dL_law_330 rfl (lv_at hl 1 rfl) ?_
  refine tw_S (As := [.ref b0, .int (xs (x4 + (1 : Int32)).toNatClampNeg), .int (xs (x4 + (2 : Int32)).toNatClampNeg), .int (xs (x4 + (3 : Int32)).toNatClampNeg), .int (xs (x4 + (4 : Int32)).toNatClampNeg), .int (xs (x4 + (5 : Int32)).toNatClampNeg), .int (xs (x4 + (6 : Int32)).toNatClampNeg), .int (xs (x4 + (7 : Int32)).toNatClampNeg), .ref o]) (rest := []) (w1 := []) (w2 := wX5 qm cI gm) (wsd := fun u : St × St × St × (Nat → Int64) => wW o cJ u.2.2.2 b0 qh qs qr cI u.1 u.2.1 u.2.2.1 qm gm) ⟨hx, hb, hml, hown, hts⟩ (c_L_addTitle l hfl dC dI cI cJ o f b0 qh qs qr gh gs gr (xs (x4 + (1 : Int32)).toNatClampNeg) (xs (x4 + (2 : Int32)).toNatClampNeg) (xs (x4 + (3 : Int32)).toNatClampNeg) (xs (x4 + (4 : Int32)).toNatClampNeg) (xs (x4 + (5 : Int32)).toNatClampNeg) (xs (x4 + (6 : Int32)).toNatClampNeg) (xs (x4 + (7 : Int32)).toNatClampNeg) (fun (r : Int32) (gh' gs' gr' : St) => gm' 0 0 = 0 ∧ r = b6 ∧ Rel gh' gs' gr' gm') (fun k : Int32 => gm' 0 0 = k ∧ ¬ k = 0 ∧ Rel gh gs gr gm') hx6 _) (vx_cwSW 9 hts gL_law_L_addTitle rfl rfl rfl (by decide +kernel) ⟨Nat.le_of_ble_eq_true rfl, Nat.le_of_ble_eq_true rfl⟩) hP hD hS hA hK hN hXS hXH rfl (fun u => rfl) rfl rfl hl.1 (Nat.le_of_ble_eq_true rfl) ⟨by show _ ≤ 601024; omega, by show _ ≤ 7293034; omega⟩ dL_law_331 (fun k5 u H locs hk5 hP hD hS => ?_)
  obtain ⟨uh, us, ur, uf⟩ := u
  refine lv_istore (lv' := [(5, .int k5), (4, .int x4), (3, .ref o), (2, .ref (qm 0)), (1, .ref b0), (0, .ref b)]) hx hb dL_law_334 hl (by decide) rfl (fun ls hl => ?_)
  refine lv_aload_n hx hb dL_law_336 rfl (lv_at hl 3 rfl) ?_
  refine lv_aload_n hx hb dL_law_337 rfl (lv_at hl 5 rfl) ?_
  refine lv_iload hx hb dL_law_338 (lv_at hl 1 rfl) ?_
  refine lv_iconst (v := 1) hx hb dL_law_340 (by decide) ?_
  refine lv_iadd hx hb dL_law_341 ?_
  refine va_sld hx hb hX hbl hbA hS (lw_in hi 1 (by omega) hL) dL_law_342 ?_
  refine lv_aload_n hx hb dL_law_343 rfl (lv_at hl 5 rfl) ?_
  refine lv_iload hx hb dL_law_344 (lv_at hl 1 rfl) ?_
  refine lv_iconst (v := 2) hx hb dL_law_346 (by decide) ?_
  refine lv_iadd hx hb dL_law_347 ?_
  refine va_sld hx hb hX hbl hbA hS (lw_in hi 2 (by omega) hL) dL_law_348 ?_
  refine lv_aload_n hx hb dL_law_349 rfl (lv_at hl 5 rfl) ?_
  refine lv_iload hx hb dL_law_350 (lv_at hl 1 rfl) ?_
  refine lv_iconst (v := 3) hx hb dL_law_352 (by decide) ?_
  refine lv_iadd hx hb dL_law_353 ?_
  refine va_sld hx hb hX hbl hbA hS (lw_in hi 3 (by omega) hL) dL_law_354 ?_
  refine lv_aload_n hx hb dL_law_355 rfl (lv_at hl 5 rfl) ?_
  refine lv_iload hx hb dL_law_356 (lv_at hl 1 rfl) ?_
  refine lv_iconst (v := 4) hx hb dL_law_358 (by decide) ?_
  refine lv_iadd hx hb dL_law_359 ?_
  refine va_sld hx hb hX hbl hbA hS (lw_in hi 4 (by omega) hL) dL_law_360 ?_
  refine lv_aload_n hx hb dL_law_361 rfl (lv_at hl 5 rfl) ?_
  refine lv_iload hx hb dL_law_362 (lv_at hl 1 rfl) ?_
  refine lv_iconst (v := 5) hx hb dL_law_364 (by decide) ?_
  refine lv_iadd hx hb dL_law_365 ?_
  refine va_sld hx hb hX hbl hbA hS (lw_in hi 5 (by omega) hL) dL_law_366 ?_
  refine lv_aload_n hx hb dL_law_367 rfl (lv_at hl 5 rfl) ?_
  refine lv_iload hx hb dL_law_368 (lv_at hl 1 rfl) ?_
  refine lv_bipush (v := 6) hx hb dL_law_370 (by decide) ?_
  refine lv_iadd hx hb dL_law_372 ?_
  refine va_sld hx hb hX hbl hbA hS (lw_in hi 6 (by omega) hL) dL_law_373 ?_
  refine lv_aload_n hx hb dL_law_374 rfl (lv_at hl 5 rfl) ?_
  refine lv_iload hx hb dL_law_375 (lv_at hl 1 rfl) ?_
  refine lv_bipush (v := 7) hx hb dL_law_377 (by decide) ?_
  refine lv_iadd hx hb dL_law_379 ?_
  refine va_sld hx hb hX hbl hbA hS (lw_in hi 7 (by omega) hL) dL_law_380 ?_
  refine wr_Vi (As := [.int (xs (x4 + (1 : Int32)).toNatClampNeg), .int (xs (x4 + (2 : Int32)).toNatClampNeg), .int (xs (x4 + (3 : Int32)).toNatClampNeg), .int (xs (x4 + (4 : Int32)).toNatClampNeg), .int (xs (x4 + (5 : Int32)).toNatClampNeg), .int (xs (x4 + (6 : Int32)).toNatClampNeg), .int (xs (x4 + (7 : Int32)).toNatClampNeg)]) (rest := []) (w1 := wL o cJ uf b0 qh qs qr cI uh us ur) (w2 := []) (ws1 := wW o cJ uf b0 qh qs qr cI uh us ur qm gm') ⟨hx, hb, hml, hown, hts⟩ (c_X5_addTitle l dC dI cI qm gm (xs (x4 + (1 : Int32)).toNatClampNeg) (xs (x4 + (2 : Int32)).toNatClampNeg) (xs (x4 + (3 : Int32)).toNatClampNeg) (xs (x4 + (4 : Int32)).toNatClampNeg) (xs (x4 + (5 : Int32)).toNatClampNeg) (xs (x4 + (6 : Int32)).toNatClampNeg) (xs (x4 + (7 : Int32)).toNatClampNeg) b6 gm' hm6 _) (cwV 7 hts gL_law_X5_addTitle rfl rfl rfl (by decide +kernel) ⟨Nat.le_of_ble_eq_true rfl, Nat.le_of_ble_eq_true rfl⟩) hP hD hS hA (hK.sub [0] rfl) hN (wW_M o cJ uf b0 qh qs qr cI uh us ur qm gm) (wW_M o cJ uf b0 qh qs qr cI uh us ur qm gm').symm rfl rfl rfl rfl hl.1 (Nat.le_of_ble_eq_true rfl) ⟨by show _ ≤ 601024; omega, by show _ ≤ 7293034; omega⟩ dL_law_381 (fun H locs hP hD hS => ?_)
  refine lv_istore (lv' := [(6, .int b6), (5, .int k5), (4, .int x4), (3, .ref o), (2, .ref (qm 0)), (1, .ref b0), (0, .ref b)]) hx hb dL_law_384 hl (by decide) rfl (fun ls hl => ?_)
  refine lv_aload_n hx hb dL_law_386 rfl (lv_at hl 4 rfl) ?_
  refine ro_V (As := []) (rest := []) ⟨hx, hb, hml, hown, hts⟩ (c_X5_thrown l dC dI cI qm gm' (gm' 0 0) rfl) (cwV 0 hts gL_law_X5_thrown rfl rfl rfl (by decide +kernel) ⟨Nat.le_of_ble_eq_true rfl, Nat.le_of_ble_eq_true rfl⟩) (tWm hP) (hK.sub [0] rfl) hN rfl rfl rfl rfl hl.1 (Nat.le_of_ble_eq_true rfl) ⟨by show _ ≤ 601024; omega, by show _ ≤ 7293034; omega⟩ dL_law_387 ?_
  refine lv_iload hx hb dL_law_390 (lv_at hl 1 rfl) ?_
  refine lv_icmp_eq (tgt := 397) hx hb dL_law_392 (by decide) (fun ceq => ?_) (fun ceq => ?_)
  · refine lv_iload hx hb dL_law_397 (lv_at hl 1 rfl) ?_
    refine lv_if_ne (tgt := 414) hx hb dL_law_399 (by decide) (fun c5 => ?_) (fun c5 => ?_)
    · rcases hk5 with ⟨hk0, -⟩ | ⟨⟨-, -, hrel6⟩, hu⟩
      · exact absurd hk0 c5
      · cases hu
        refine lv_goto (tgt := 1750) hx hb dL_law_414 (by decide) ?_
        refine W.widen (k := k + 8) (n := n + 48) (by omega) (by omega) ?_
        exact kk _ _ _ gh gs gr gm' f hrel6 hP hD hS (lv_sub hl [2, 3, 4, 5, 6] rfl)
    · rcases hk5 with ⟨hk0, r6, hout, ht0, hr6, hrel6⟩ | ⟨⟨-, hne, -⟩, hu⟩
      · refine lv_aload_n hx hb dL_law_402 rfl (lv_at hl 3 rfl) ?_
        refine lv_iconst (v := 0) hx hb dL_law_403 (by decide) ?_
        refine va_lald hx hb hK hP 0 1 rfl rfl vp01 dL_law_404 ?_
        refine lv_iload hx hb dL_law_405 (lv_at hl 0 rfl) ?_
        refine lv_i2l hx hb dL_law_407 rfl ?_
        refine W.lcmp hx hb dL_law_408 ?_
        refine lv_if_eq (tgt := 414) hx hb dL_law_409 (by decide) (fun c6 => ?_) (fun c6 => ?_)
        · refine lv_goto (tgt := 1750) hx hb dL_law_414 (by decide) ?_
          refine W.widen (k := k + 8) (n := n + 48) (by omega) (by omega) ?_
          exact kk _ _ _ uh us ur gm' uf hrel6 hP hD hS (lv_sub hl [2, 3, 4, 5, 6] rfl)
        · exact absurd (by rw [show uf (0 : Int32).toNatClampNeg = r6.toInt64 from hout, hr6]; exact lw_cmp _) c6
      · exact absurd c5 hne
  · rcases hk5 with ⟨hk0, r6, hout, ht0, hr6, hrel6⟩ | ⟨⟨he6, -, -⟩, hu⟩
    · exact absurd (ht0.trans hk0.symm) ceq
    · exact absurd he6 ceq
def Sim_addCopy (Rel : St → St → St → St → Prop) : Prop := ∀ (gh gs gr gm : St) (a1 : Int32), Rel gh gs gr gm → ∃ (b6 : Int32) (gm' : St), P_X5_addCopy gm a1 b6 gm' ∧ P_X4_addCopy gh gs gr a1 (fun (r : Int32) (gh' gs' gr' : St) => gm' 0 0 = 0 ∧ r = b6 ∧ Rel gh' gs' gr' gm') (fun E : String => (E = E_i ∧ (gm' 0 0 = 1 ∧ ¬ (1 : Int32) = 0 ∧ Rel gh gs gr gm')) ∨ (E = E_s ∧ (gm' 0 0 = 2 ∧ ¬ (2 : Int32) = 0 ∧ Rel gh gs gr gm')))
set_option maxRecDepth 100000 in
set_option maxHeartbeats 4000000 in
theorem law_c4 {p : Program} {l : Launch} {e : Env} {s : State} {m : MethodId} {below : List Frame} {meth : Method} {c : Code} {b L : Nat} {xs : Nat → Int32} {dC : Nat → ClassId} {dI : Nat → Nat → Nat} {cI cJ : ClassId} {o b0 : Nat} {qh qs qr qm : Nat → Nat} {Rel : St → St → St → St → Prop} {x4 : Int32} {k n : Nat} (hE : lw_Env p l s m c b L xs dC dI cI cJ) (hSim : Sim_addCopy Rel) {j : Nat} (hi : x4 = nI j) (hj : j + 8 ≤ L) (hk : k + 8 ≤ 601024) (hn : n + 48 ≤ 7293034) (kk : law_at p l e s m below meth c b dC dI cI cJ o b0 qh qs qr qm Rel 1750 x4 (k + 8) (n + 48)) : law_at p l e s m below meth c b dC dI cI cJ o b0 qh qs qr qm Rel 417 x4 k n := by
  intro H locs ls gh gs gr gm f hrel hP hD hS hl
  obtain ⟨hx, hb, hml, hown, hts, hX, hbl, hK, hN, hXS, hXH, hfl, hL⟩ := id hE
  have hA : ∀ q : Nat, s.heap.size ≤ q → (fun q : Nat => s.heap.size ≤ q) q := fun _ h => h
  have hbA : ¬ (fun q : Nat => s.heap.size ≤ q) b := Nat.not_le.mpr hbl
  obtain ⟨b6, gm', hm6, hx6⟩ := hSim gh gs gr gm (xs (x4 + (1 : Int32)).toNatClampNeg) hrel
  refine lv_aload_n hx hb dL_law_417 rfl (lv_at hl 3 rfl) ?_
  refine lv_aload_n hx hb dL_law_418 rfl (lv_at hl 4 rfl) ?_
  refine lv_iload hx hb dL_law_419 (lv_at hl 0 rfl) ?_
  refine lv_iconst (v := 1) hx hb dL_law_421 (by decide) ?_
  refine lv_iadd hx hb dL_law_422 ?_
  refine va_sld hx hb hX hbl hbA hS (lw_in hi 1 (by omega) hL) dL_law_423 ?_
  refine lv_aload_n hx hb dL_law_424 rfl (lv_at hl 1 rfl) ?_
  refine tw_S (As := [.ref b0, .int (xs (x4 + (1 : Int32)).toNatClampNeg), .ref o]) (rest := []) (w1 := []) (w2 := wX5 qm cI gm) (wsd := fun u : St × St × St × (Nat → Int64) => wW o cJ u.2.2.2 b0 qh qs qr cI u.1 u.2.1 u.2.2.1 qm gm) ⟨hx, hb, hml, hown, hts⟩ (c_L_addCopy l hfl dC dI cI cJ o f b0 qh qs qr gh gs gr (xs (x4 + (1 : Int32)).toNatClampNeg) (fun (r : Int32) (gh' gs' gr' : St) => gm' 0 0 = 0 ∧ r = b6 ∧ Rel gh' gs' gr' gm') (fun k : Int32 => gm' 0 0 = k ∧ ¬ k = 0 ∧ Rel gh gs gr gm') hx6 _) (vx_cwSW 3 hts gL_law_L_addCopy rfl rfl rfl (by decide +kernel) ⟨Nat.le_of_ble_eq_true rfl, Nat.le_of_ble_eq_true rfl⟩) hP hD hS hA hK hN hXS hXH rfl (fun u => rfl) rfl rfl hl.1 (Nat.le_of_ble_eq_true rfl) ⟨by show _ ≤ 601024; omega, by show _ ≤ 7293034; omega⟩ dL_law_425 (fun k5 u H locs hk5 hP hD hS => ?_)
  obtain ⟨uh, us, ur, uf⟩ := u
  refine lv_istore (lv' := [(5, .int k5), (4, .int x4), (3, .ref o), (2, .ref (qm 0)), (1, .ref b0), (0, .ref b)]) hx hb dL_law_428 hl (by decide) rfl (fun ls hl => ?_)
  refine lv_aload_n hx hb dL_law_430 rfl (lv_at hl 3 rfl) ?_
  refine lv_aload_n hx hb dL_law_431 rfl (lv_at hl 5 rfl) ?_
  refine lv_iload hx hb dL_law_432 (lv_at hl 1 rfl) ?_
  refine lv_iconst (v := 1) hx hb dL_law_434 (by decide) ?_
  refine lv_iadd hx hb dL_law_435 ?_
  refine va_sld hx hb hX hbl hbA hS (lw_in hi 1 (by omega) hL) dL_law_436 ?_
  refine wr_Vi (As := [.int (xs (x4 + (1 : Int32)).toNatClampNeg)]) (rest := []) (w1 := wL o cJ uf b0 qh qs qr cI uh us ur) (w2 := []) (ws1 := wW o cJ uf b0 qh qs qr cI uh us ur qm gm') ⟨hx, hb, hml, hown, hts⟩ (c_X5_addCopy l dC dI cI qm gm (xs (x4 + (1 : Int32)).toNatClampNeg) b6 gm' hm6 _) (cwV 1 hts gL_law_X5_addCopy rfl rfl rfl (by decide +kernel) ⟨Nat.le_of_ble_eq_true rfl, Nat.le_of_ble_eq_true rfl⟩) hP hD hS hA (hK.sub [0] rfl) hN (wW_M o cJ uf b0 qh qs qr cI uh us ur qm gm) (wW_M o cJ uf b0 qh qs qr cI uh us ur qm gm').symm rfl rfl rfl rfl hl.1 (Nat.le_of_ble_eq_true rfl) ⟨by show _ ≤ 601024; omega, by show _ ≤ 7293034; omega⟩ dL_law_437 (fun H locs hP hD hS => ?_)
  refine lv_istore (lv' := [(6, .int b6), (5, .int k5), (4, .int x4), (3, .ref o), (2, .ref (qm 0)), (1, .ref b0), (0, .ref b)]) hx hb dL_law_440 hl (by decide) rfl (fun ls hl => ?_)
  refine lv_aload_n hx hb dL_law_442 rfl (lv_at hl 4 rfl) ?_
  refine ro_V (As := []) (rest := []) ⟨hx, hb, hml, hown, hts⟩ (c_X5_thrown l dC dI cI qm gm' (gm' 0 0) rfl) (cwV 0 hts gL_law_X5_thrown rfl rfl rfl (by decide +kernel) ⟨Nat.le_of_ble_eq_true rfl, Nat.le_of_ble_eq_true rfl⟩) (tWm hP) (hK.sub [0] rfl) hN rfl rfl rfl rfl hl.1 (Nat.le_of_ble_eq_true rfl) ⟨by show _ ≤ 601024; omega, by show _ ≤ 7293034; omega⟩ dL_law_443 ?_
  refine lv_iload hx hb dL_law_446 (lv_at hl 1 rfl) ?_
  refine lv_icmp_eq (tgt := 453) hx hb dL_law_448 (by decide) (fun ceq => ?_) (fun ceq => ?_)
  · refine lv_iload hx hb dL_law_453 (lv_at hl 1 rfl) ?_
    refine lv_if_ne (tgt := 470) hx hb dL_law_455 (by decide) (fun c5 => ?_) (fun c5 => ?_)
    · rcases hk5 with ⟨hk0, -⟩ | ⟨⟨-, -, hrel6⟩, hu⟩
      · exact absurd hk0 c5
      · cases hu
        refine lv_goto (tgt := 1750) hx hb dL_law_470 (by decide) ?_
        refine W.widen (k := k + 8) (n := n + 48) (by omega) (by omega) ?_
        exact kk _ _ _ gh gs gr gm' f hrel6 hP hD hS (lv_sub hl [2, 3, 4, 5, 6] rfl)
    · rcases hk5 with ⟨hk0, r6, hout, ht0, hr6, hrel6⟩ | ⟨⟨-, hne, -⟩, hu⟩
      · refine lv_aload_n hx hb dL_law_458 rfl (lv_at hl 3 rfl) ?_
        refine lv_iconst (v := 0) hx hb dL_law_459 (by decide) ?_
        refine va_lald hx hb hK hP 0 1 rfl rfl vp01 dL_law_460 ?_
        refine lv_iload hx hb dL_law_461 (lv_at hl 0 rfl) ?_
        refine lv_i2l hx hb dL_law_463 rfl ?_
        refine W.lcmp hx hb dL_law_464 ?_
        refine lv_if_eq (tgt := 470) hx hb dL_law_465 (by decide) (fun c6 => ?_) (fun c6 => ?_)
        · refine lv_goto (tgt := 1750) hx hb dL_law_470 (by decide) ?_
          refine W.widen (k := k + 8) (n := n + 48) (by omega) (by omega) ?_
          exact kk _ _ _ uh us ur gm' uf hrel6 hP hD hS (lv_sub hl [2, 3, 4, 5, 6] rfl)
        · exact absurd (by rw [show uf (0 : Int32).toNatClampNeg = r6.toInt64 from hout, hr6]; exact lw_cmp _) c6
      · exact absurd c5 hne
  · rcases hk5 with ⟨hk0, r6, hout, ht0, hr6, hrel6⟩ | ⟨⟨he6, -, -⟩, hu⟩
    · exact absurd (ht0.trans hk0.symm) ceq
    · exact absurd he6 ceq
def Sim_addRule (Rel : St → St → St → St → Prop) : Prop := ∀ (gh gs gr gm : St) (a1 : Int32) (a2 : Int32) (a3 : Int32) (a4 : Int32) (a5 : Int32), Rel gh gs gr gm → ∃ (b6 : Int32) (gm' : St), P_X5_addRule gm a1 a2 a3 a4 a5 b6 gm' ∧ P_X4_addRule gh gs gr a1 a2 a3 a4 a5 (fun (r : Int32) (gh' gs' gr' : St) => gm' 0 0 = 0 ∧ r = b6 ∧ Rel gh' gs' gr' gm') (fun E : String => (E = E_i ∧ (gm' 0 0 = 1 ∧ ¬ (1 : Int32) = 0 ∧ Rel gh gs gr gm')) ∨ (E = E_a ∧ (gm' 0 0 = 2 ∧ ¬ (2 : Int32) = 0 ∧ Rel gh gs gr gm')) ∨ (E = E_s ∧ (gm' 0 0 = 3 ∧ ¬ (3 : Int32) = 0 ∧ Rel gh gs gr gm')))
set_option maxRecDepth 100000 in
set_option maxHeartbeats 4000000 in
theorem law_c5 {p : Program} {l : Launch} {e : Env} {s : State} {m : MethodId} {below : List Frame} {meth : Method} {c : Code} {b L : Nat} {xs : Nat → Int32} {dC : Nat → ClassId} {dI : Nat → Nat → Nat} {cI cJ : ClassId} {o b0 : Nat} {qh qs qr qm : Nat → Nat} {Rel : St → St → St → St → Prop} {x4 : Int32} {k n : Nat} (hE : lw_Env p l s m c b L xs dC dI cI cJ) (hSim : Sim_addRule Rel) {j : Nat} (hi : x4 = nI j) (hj : j + 8 ≤ L) (hk : k + 8 ≤ 601024) (hn : n + 48 ≤ 7293034) (kk : law_at p l e s m below meth c b dC dI cI cJ o b0 qh qs qr qm Rel 1750 x4 (k + 8) (n + 48)) : law_at p l e s m below meth c b dC dI cI cJ o b0 qh qs qr qm Rel 473 x4 k n := by
  intro H locs ls gh gs gr gm f hrel hP hD hS hl
  obtain ⟨hx, hb, hml, hown, hts, hX, hbl, hK, hN, hXS, hXH, hfl, hL⟩ := id hE
  have hA : ∀ q : Nat, s.heap.size ≤ q → (fun q : Nat => s.heap.size ≤ q) q := fun _ h => h
  have hbA : ¬ (fun q : Nat => s.heap.size ≤ q) b := Nat.not_le.mpr hbl
  obtain ⟨b6, gm', hm6, hx6⟩ := hSim gh gs gr gm (xs (x4 + (1 : Int32)).toNatClampNeg) (xs (x4 + (2 : Int32)).toNatClampNeg) (xs (x4 + (3 : Int32)).toNatClampNeg) (xs (x4 + (4 : Int32)).toNatClampNeg) (xs (x4 + (5 : Int32)).toNatClampNeg) hrel
  refine lv_aload_n hx hb dL_law_473 rfl (lv_at hl 3 rfl) ?_
  refine lv_aload_n hx hb dL_law_474 rfl (lv_at hl 4 rfl) ?_
  refine lv_iload hx hb dL_law_475 (lv_at hl 0 rfl) ?_
  refine lv_iconst (v := 1) hx hb dL_law_477 (by decide) ?_
  refine lv_iadd hx hb dL_law_478 ?_
  refine va_sld hx hb hX hbl hbA hS (lw_in hi 1 (by omega) hL) dL_law_479 ?_
  refine lv_aload_n hx hb dL_law_480 rfl (lv_at hl 4 rfl) ?_
  refine lv_iload hx hb dL_law_481 (lv_at hl 0 rfl) ?_
  refine lv_iconst (v := 2) hx hb dL_law_483 (by decide) ?_
  refine lv_iadd hx hb dL_law_484 ?_
  refine va_sld hx hb hX hbl hbA hS (lw_in hi 2 (by omega) hL) dL_law_485 ?_
  refine lv_aload_n hx hb dL_law_486 rfl (lv_at hl 4 rfl) ?_
  refine lv_iload hx hb dL_law_487 (lv_at hl 0 rfl) ?_
  refine lv_iconst (v := 3) hx hb dL_law_489 (by decide) ?_
  refine lv_iadd hx hb dL_law_490 ?_
  refine va_sld hx hb hX hbl hbA hS (lw_in hi 3 (by omega) hL) dL_law_491 ?_
  refine lv_aload_n hx hb dL_law_492 rfl (lv_at hl 4 rfl) ?_
  refine lv_iload hx hb dL_law_493 (lv_at hl 0 rfl) ?_
  refine lv_iconst (v := 4) hx hb dL_law_495 (by decide) ?_
  refine lv_iadd hx hb dL_law_496 ?_
  refine va_sld hx hb hX hbl hbA hS (lw_in hi 4 (by omega) hL) dL_law_497 ?_
  refine lv_aload_n hx hb dL_law_498 rfl (lv_at hl 4 rfl) ?_
  refine lv_iload hx hb dL_law_499 (lv_at hl 0 rfl) ?_
  refine lv_iconst (v := 5) hx hb dL_law_501 (by decide) ?_
  refine lv_iadd hx hb dL_law_502 ?_
  refine va_sld hx hb hX hbl hbA hS (lw_in hi 5 (by omega) hL) dL_law_503 ?_
  refine lv_aload_n hx hb dL_law_504 rfl (lv_at hl 1 rfl) ?_
  refine tw_S (As := [.ref b0, .int (xs (x4 + (1 : Int32)).toNatClampNeg), .int (xs (x4 + (2 : Int32)).toNatClampNeg), .int (xs (x4 + (3 : Int32)).toNatClampNeg), .int (xs (x4 + (4 : Int32)).toNatClampNeg), .int (xs (x4 + (5 : Int32)).toNatClampNeg), .ref o]) (rest := []) (w1 := []) (w2 := wX5 qm cI gm) (wsd := fun u : St × St × St × (Nat → Int64) => wW o cJ u.2.2.2 b0 qh qs qr cI u.1 u.2.1 u.2.2.1 qm gm) ⟨hx, hb, hml, hown, hts⟩ (c_L_addRule l hfl dC dI cI cJ o f b0 qh qs qr gh gs gr (xs (x4 + (1 : Int32)).toNatClampNeg) (xs (x4 + (2 : Int32)).toNatClampNeg) (xs (x4 + (3 : Int32)).toNatClampNeg) (xs (x4 + (4 : Int32)).toNatClampNeg) (xs (x4 + (5 : Int32)).toNatClampNeg) (fun (r : Int32) (gh' gs' gr' : St) => gm' 0 0 = 0 ∧ r = b6 ∧ Rel gh' gs' gr' gm') (fun k : Int32 => gm' 0 0 = k ∧ ¬ k = 0 ∧ Rel gh gs gr gm') hx6 _) (vx_cwSW 7 hts gL_law_L_addRule rfl rfl rfl (by decide +kernel) ⟨Nat.le_of_ble_eq_true rfl, Nat.le_of_ble_eq_true rfl⟩) hP hD hS hA hK hN hXS hXH rfl (fun u => rfl) rfl rfl hl.1 (Nat.le_of_ble_eq_true rfl) ⟨by show _ ≤ 601024; omega, by show _ ≤ 7293034; omega⟩ dL_law_505 (fun k5 u H locs hk5 hP hD hS => ?_)
  obtain ⟨uh, us, ur, uf⟩ := u
  refine lv_istore (lv' := [(5, .int k5), (4, .int x4), (3, .ref o), (2, .ref (qm 0)), (1, .ref b0), (0, .ref b)]) hx hb dL_law_508 hl (by decide) rfl (fun ls hl => ?_)
  refine lv_aload_n hx hb dL_law_510 rfl (lv_at hl 3 rfl) ?_
  refine lv_aload_n hx hb dL_law_511 rfl (lv_at hl 5 rfl) ?_
  refine lv_iload hx hb dL_law_512 (lv_at hl 1 rfl) ?_
  refine lv_iconst (v := 1) hx hb dL_law_514 (by decide) ?_
  refine lv_iadd hx hb dL_law_515 ?_
  refine va_sld hx hb hX hbl hbA hS (lw_in hi 1 (by omega) hL) dL_law_516 ?_
  refine lv_aload_n hx hb dL_law_517 rfl (lv_at hl 5 rfl) ?_
  refine lv_iload hx hb dL_law_518 (lv_at hl 1 rfl) ?_
  refine lv_iconst (v := 2) hx hb dL_law_520 (by decide) ?_
  refine lv_iadd hx hb dL_law_521 ?_
  refine va_sld hx hb hX hbl hbA hS (lw_in hi 2 (by omega) hL) dL_law_522 ?_
  refine lv_aload_n hx hb dL_law_523 rfl (lv_at hl 5 rfl) ?_
  refine lv_iload hx hb dL_law_524 (lv_at hl 1 rfl) ?_
  refine lv_iconst (v := 3) hx hb dL_law_526 (by decide) ?_
  refine lv_iadd hx hb dL_law_527 ?_
  refine va_sld hx hb hX hbl hbA hS (lw_in hi 3 (by omega) hL) dL_law_528 ?_
  refine lv_aload_n hx hb dL_law_529 rfl (lv_at hl 5 rfl) ?_
  refine lv_iload hx hb dL_law_530 (lv_at hl 1 rfl) ?_
  refine lv_iconst (v := 4) hx hb dL_law_532 (by decide) ?_
  refine lv_iadd hx hb dL_law_533 ?_
  refine va_sld hx hb hX hbl hbA hS (lw_in hi 4 (by omega) hL) dL_law_534 ?_
  refine lv_aload_n hx hb dL_law_535 rfl (lv_at hl 5 rfl) ?_
  refine lv_iload hx hb dL_law_536 (lv_at hl 1 rfl) ?_
  refine lv_iconst (v := 5) hx hb dL_law_538 (by decide) ?_
  refine lv_iadd hx hb dL_law_539 ?_
  refine va_sld hx hb hX hbl hbA hS (lw_in hi 5 (by omega) hL) dL_law_540 ?_
  refine wr_Vi (As := [.int (xs (x4 + (1 : Int32)).toNatClampNeg), .int (xs (x4 + (2 : Int32)).toNatClampNeg), .int (xs (x4 + (3 : Int32)).toNatClampNeg), .int (xs (x4 + (4 : Int32)).toNatClampNeg), .int (xs (x4 + (5 : Int32)).toNatClampNeg)]) (rest := []) (w1 := wL o cJ uf b0 qh qs qr cI uh us ur) (w2 := []) (ws1 := wW o cJ uf b0 qh qs qr cI uh us ur qm gm') ⟨hx, hb, hml, hown, hts⟩ (c_X5_addRule l dC dI cI qm gm (xs (x4 + (1 : Int32)).toNatClampNeg) (xs (x4 + (2 : Int32)).toNatClampNeg) (xs (x4 + (3 : Int32)).toNatClampNeg) (xs (x4 + (4 : Int32)).toNatClampNeg) (xs (x4 + (5 : Int32)).toNatClampNeg) b6 gm' hm6 _) (cwV 5 hts gL_law_X5_addRule rfl rfl rfl (by decide +kernel) ⟨Nat.le_of_ble_eq_true rfl, Nat.le_of_ble_eq_true rfl⟩) hP hD hS hA (hK.sub [0] rfl) hN (wW_M o cJ uf b0 qh qs qr cI uh us ur qm gm) (wW_M o cJ uf b0 qh qs qr cI uh us ur qm gm').symm rfl rfl rfl rfl hl.1 (Nat.le_of_ble_eq_true rfl) ⟨by show _ ≤ 601024; omega, by show _ ≤ 7293034; omega⟩ dL_law_541 (fun H locs hP hD hS => ?_)
  refine lv_istore (lv' := [(6, .int b6), (5, .int k5), (4, .int x4), (3, .ref o), (2, .ref (qm 0)), (1, .ref b0), (0, .ref b)]) hx hb dL_law_544 hl (by decide) rfl (fun ls hl => ?_)
  refine lv_aload_n hx hb dL_law_546 rfl (lv_at hl 4 rfl) ?_
  refine ro_V (As := []) (rest := []) ⟨hx, hb, hml, hown, hts⟩ (c_X5_thrown l dC dI cI qm gm' (gm' 0 0) rfl) (cwV 0 hts gL_law_X5_thrown rfl rfl rfl (by decide +kernel) ⟨Nat.le_of_ble_eq_true rfl, Nat.le_of_ble_eq_true rfl⟩) (tWm hP) (hK.sub [0] rfl) hN rfl rfl rfl rfl hl.1 (Nat.le_of_ble_eq_true rfl) ⟨by show _ ≤ 601024; omega, by show _ ≤ 7293034; omega⟩ dL_law_547 ?_
  refine lv_iload hx hb dL_law_550 (lv_at hl 1 rfl) ?_
  refine lv_icmp_eq (tgt := 557) hx hb dL_law_552 (by decide) (fun ceq => ?_) (fun ceq => ?_)
  · refine lv_iload hx hb dL_law_557 (lv_at hl 1 rfl) ?_
    refine lv_if_ne (tgt := 574) hx hb dL_law_559 (by decide) (fun c5 => ?_) (fun c5 => ?_)
    · rcases hk5 with ⟨hk0, -⟩ | ⟨⟨-, -, hrel6⟩, hu⟩
      · exact absurd hk0 c5
      · cases hu
        refine lv_goto (tgt := 1750) hx hb dL_law_574 (by decide) ?_
        refine W.widen (k := k + 8) (n := n + 48) (by omega) (by omega) ?_
        exact kk _ _ _ gh gs gr gm' f hrel6 hP hD hS (lv_sub hl [2, 3, 4, 5, 6] rfl)
    · rcases hk5 with ⟨hk0, r6, hout, ht0, hr6, hrel6⟩ | ⟨⟨-, hne, -⟩, hu⟩
      · refine lv_aload_n hx hb dL_law_562 rfl (lv_at hl 3 rfl) ?_
        refine lv_iconst (v := 0) hx hb dL_law_563 (by decide) ?_
        refine va_lald hx hb hK hP 0 1 rfl rfl vp01 dL_law_564 ?_
        refine lv_iload hx hb dL_law_565 (lv_at hl 0 rfl) ?_
        refine lv_i2l hx hb dL_law_567 rfl ?_
        refine W.lcmp hx hb dL_law_568 ?_
        refine lv_if_eq (tgt := 574) hx hb dL_law_569 (by decide) (fun c6 => ?_) (fun c6 => ?_)
        · refine lv_goto (tgt := 1750) hx hb dL_law_574 (by decide) ?_
          refine W.widen (k := k + 8) (n := n + 48) (by omega) (by omega) ?_
          exact kk _ _ _ uh us ur gm' uf hrel6 hP hD hS (lv_sub hl [2, 3, 4, 5, 6] rfl)
        · exact absurd (by rw [show uf (0 : Int32).toNatClampNeg = r6.toInt64 from hout, hr6]; exact lw_cmp _) c6
      · exact absurd c5 hne
  · rcases hk5 with ⟨hk0, r6, hout, ht0, hr6, hrel6⟩ | ⟨⟨he6, -, -⟩, hu⟩
    · exact absurd (ht0.trans hk0.symm) ceq
    · exact absurd he6 ceq
def Sim_arrive (Rel : St → St → St → St → Prop) : Prop := ∀ (gh gs gr gm : St) (a1 : Int32) (a2 : Int32), Rel gh gs gr gm → ∃ (b6 : Int32) (gm' : St), P_X5_arrive gm a1 a2 b6 gm' ∧ P_X4_arrive gh gs gr a1 a2 (fun (r : Int32) (gh' gs' gr' : St) => gm' 0 0 = 0 ∧ r = b6 ∧ Rel gh' gs' gr' gm') (fun E : String => (E = E_a ∧ (gm' 0 0 = 1 ∧ ¬ (1 : Int32) = 0 ∧ Rel gh gs gr gm')) ∨ (E = E_s ∧ (gm' 0 0 = 2 ∧ ¬ (2 : Int32) = 0 ∧ Rel gh gs gr gm')))
set_option maxRecDepth 100000 in
set_option maxHeartbeats 4000000 in
theorem law_c6 {p : Program} {l : Launch} {e : Env} {s : State} {m : MethodId} {below : List Frame} {meth : Method} {c : Code} {b L : Nat} {xs : Nat → Int32} {dC : Nat → ClassId} {dI : Nat → Nat → Nat} {cI cJ : ClassId} {o b0 : Nat} {qh qs qr qm : Nat → Nat} {Rel : St → St → St → St → Prop} {x4 : Int32} {k n : Nat} (hE : lw_Env p l s m c b L xs dC dI cI cJ) (hSim : Sim_arrive Rel) {j : Nat} (hi : x4 = nI j) (hj : j + 8 ≤ L) (hk : k + 8 ≤ 601024) (hn : n + 48 ≤ 7293034) (kk : law_at p l e s m below meth c b dC dI cI cJ o b0 qh qs qr qm Rel 1750 x4 (k + 8) (n + 48)) : law_at p l e s m below meth c b dC dI cI cJ o b0 qh qs qr qm Rel 577 x4 k n := by
  intro H locs ls gh gs gr gm f hrel hP hD hS hl
  obtain ⟨hx, hb, hml, hown, hts, hX, hbl, hK, hN, hXS, hXH, hfl, hL⟩ := id hE
  have hA : ∀ q : Nat, s.heap.size ≤ q → (fun q : Nat => s.heap.size ≤ q) q := fun _ h => h
  have hbA : ¬ (fun q : Nat => s.heap.size ≤ q) b := Nat.not_le.mpr hbl
  obtain ⟨b6, gm', hm6, hx6⟩ := hSim gh gs gr gm (xs (x4 + (1 : Int32)).toNatClampNeg) (xs (x4 + (2 : Int32)).toNatClampNeg) hrel
  refine lv_aload_n hx hb dL_law_577 rfl (lv_at hl 3 rfl) ?_
  refine lv_aload_n hx hb dL_law_578 rfl (lv_at hl 4 rfl) ?_
  refine lv_iload hx hb dL_law_579 (lv_at hl 0 rfl) ?_
  refine lv_iconst (v := 1) hx hb dL_law_581 (by decide) ?_
  refine lv_iadd hx hb dL_law_582 ?_
  refine va_sld hx hb hX hbl hbA hS (lw_in hi 1 (by omega) hL) dL_law_583 ?_
  refine lv_aload_n hx hb dL_law_584 rfl (lv_at hl 4 rfl) ?_
  refine lv_iload hx hb dL_law_585 (lv_at hl 0 rfl) ?_
  refine lv_iconst (v := 2) hx hb dL_law_587 (by decide) ?_
  refine lv_iadd hx hb dL_law_588 ?_
  refine va_sld hx hb hX hbl hbA hS (lw_in hi 2 (by omega) hL) dL_law_589 ?_
  refine lv_aload_n hx hb dL_law_590 rfl (lv_at hl 1 rfl) ?_
  refine tw_S (As := [.ref b0, .int (xs (x4 + (1 : Int32)).toNatClampNeg), .int (xs (x4 + (2 : Int32)).toNatClampNeg), .ref o]) (rest := []) (w1 := []) (w2 := wX5 qm cI gm) (wsd := fun u : St × St × St × (Nat → Int64) => wW o cJ u.2.2.2 b0 qh qs qr cI u.1 u.2.1 u.2.2.1 qm gm) ⟨hx, hb, hml, hown, hts⟩ (c_L_arrive l hfl dC dI cI cJ o f b0 qh qs qr gh gs gr (xs (x4 + (1 : Int32)).toNatClampNeg) (xs (x4 + (2 : Int32)).toNatClampNeg) (fun (r : Int32) (gh' gs' gr' : St) => gm' 0 0 = 0 ∧ r = b6 ∧ Rel gh' gs' gr' gm') (fun k : Int32 => gm' 0 0 = k ∧ ¬ k = 0 ∧ Rel gh gs gr gm') hx6 _) (vx_cwSW 4 hts gL_law_L_arrive rfl rfl rfl (by decide +kernel) ⟨Nat.le_of_ble_eq_true rfl, Nat.le_of_ble_eq_true rfl⟩) hP hD hS hA hK hN hXS hXH rfl (fun u => rfl) rfl rfl hl.1 (Nat.le_of_ble_eq_true rfl) ⟨by show _ ≤ 601024; omega, by show _ ≤ 7293034; omega⟩ dL_law_591 (fun k5 u H locs hk5 hP hD hS => ?_)
  obtain ⟨uh, us, ur, uf⟩ := u
  refine lv_istore (lv' := [(5, .int k5), (4, .int x4), (3, .ref o), (2, .ref (qm 0)), (1, .ref b0), (0, .ref b)]) hx hb dL_law_594 hl (by decide) rfl (fun ls hl => ?_)
  refine lv_aload_n hx hb dL_law_596 rfl (lv_at hl 3 rfl) ?_
  refine lv_aload_n hx hb dL_law_597 rfl (lv_at hl 5 rfl) ?_
  refine lv_iload hx hb dL_law_598 (lv_at hl 1 rfl) ?_
  refine lv_iconst (v := 1) hx hb dL_law_600 (by decide) ?_
  refine lv_iadd hx hb dL_law_601 ?_
  refine va_sld hx hb hX hbl hbA hS (lw_in hi 1 (by omega) hL) dL_law_602 ?_
  refine lv_aload_n hx hb dL_law_603 rfl (lv_at hl 5 rfl) ?_
  refine lv_iload hx hb dL_law_604 (lv_at hl 1 rfl) ?_
  refine lv_iconst (v := 2) hx hb dL_law_606 (by decide) ?_
  refine lv_iadd hx hb dL_law_607 ?_
  refine va_sld hx hb hX hbl hbA hS (lw_in hi 2 (by omega) hL) dL_law_608 ?_
  refine wr_Vi (As := [.int (xs (x4 + (1 : Int32)).toNatClampNeg), .int (xs (x4 + (2 : Int32)).toNatClampNeg)]) (rest := []) (w1 := wL o cJ uf b0 qh qs qr cI uh us ur) (w2 := []) (ws1 := wW o cJ uf b0 qh qs qr cI uh us ur qm gm') ⟨hx, hb, hml, hown, hts⟩ (c_X5_arrive l dC dI cI qm gm (xs (x4 + (1 : Int32)).toNatClampNeg) (xs (x4 + (2 : Int32)).toNatClampNeg) b6 gm' hm6 _) (cwV 2 hts gL_law_X5_arrive rfl rfl rfl (by decide +kernel) ⟨Nat.le_of_ble_eq_true rfl, Nat.le_of_ble_eq_true rfl⟩) hP hD hS hA (hK.sub [0] rfl) hN (wW_M o cJ uf b0 qh qs qr cI uh us ur qm gm) (wW_M o cJ uf b0 qh qs qr cI uh us ur qm gm').symm rfl rfl rfl rfl hl.1 (Nat.le_of_ble_eq_true rfl) ⟨by show _ ≤ 601024; omega, by show _ ≤ 7293034; omega⟩ dL_law_609 (fun H locs hP hD hS => ?_)
  refine lv_istore (lv' := [(6, .int b6), (5, .int k5), (4, .int x4), (3, .ref o), (2, .ref (qm 0)), (1, .ref b0), (0, .ref b)]) hx hb dL_law_612 hl (by decide) rfl (fun ls hl => ?_)
  refine lv_aload_n hx hb dL_law_614 rfl (lv_at hl 4 rfl) ?_
  refine ro_V (As := []) (rest := []) ⟨hx, hb, hml, hown, hts⟩ (c_X5_thrown l dC dI cI qm gm' (gm' 0 0) rfl) (cwV 0 hts gL_law_X5_thrown rfl rfl rfl (by decide +kernel) ⟨Nat.le_of_ble_eq_true rfl, Nat.le_of_ble_eq_true rfl⟩) (tWm hP) (hK.sub [0] rfl) hN rfl rfl rfl rfl hl.1 (Nat.le_of_ble_eq_true rfl) ⟨by show _ ≤ 601024; omega, by show _ ≤ 7293034; omega⟩ dL_law_615 ?_
  refine lv_iload hx hb dL_law_618 (lv_at hl 1 rfl) ?_
  refine lv_icmp_eq (tgt := 625) hx hb dL_law_620 (by decide) (fun ceq => ?_) (fun ceq => ?_)
  · refine lv_iload hx hb dL_law_625 (lv_at hl 1 rfl) ?_
    refine lv_if_ne (tgt := 642) hx hb dL_law_627 (by decide) (fun c5 => ?_) (fun c5 => ?_)
    · rcases hk5 with ⟨hk0, -⟩ | ⟨⟨-, -, hrel6⟩, hu⟩
      · exact absurd hk0 c5
      · cases hu
        refine lv_goto (tgt := 1750) hx hb dL_law_642 (by decide) ?_
        refine W.widen (k := k + 8) (n := n + 48) (by omega) (by omega) ?_
        exact kk _ _ _ gh gs gr gm' f hrel6 hP hD hS (lv_sub hl [2, 3, 4, 5, 6] rfl)
    · rcases hk5 with ⟨hk0, r6, hout, ht0, hr6, hrel6⟩ | ⟨⟨-, hne, -⟩, hu⟩
      · refine lv_aload_n hx hb dL_law_630 rfl (lv_at hl 3 rfl) ?_
        refine lv_iconst (v := 0) hx hb dL_law_631 (by decide) ?_
        refine va_lald hx hb hK hP 0 1 rfl rfl vp01 dL_law_632 ?_
        refine lv_iload hx hb dL_law_633 (lv_at hl 0 rfl) ?_
        refine lv_i2l hx hb dL_law_635 rfl ?_
        refine W.lcmp hx hb dL_law_636 ?_
        refine lv_if_eq (tgt := 642) hx hb dL_law_637 (by decide) (fun c6 => ?_) (fun c6 => ?_)
        · refine lv_goto (tgt := 1750) hx hb dL_law_642 (by decide) ?_
          refine W.widen (k := k + 8) (n := n + 48) (by omega) (by omega) ?_
          exact kk _ _ _ uh us ur gm' uf hrel6 hP hD hS (lv_sub hl [2, 3, 4, 5, 6] rfl)
        · exact absurd (by rw [show uf (0 : Int32).toNatClampNeg = r6.toInt64 from hout, hr6]; exact lw_cmp _) c6
      · exact absurd c5 hne
  · rcases hk5 with ⟨hk0, r6, hout, ht0, hr6, hrel6⟩ | ⟨⟨he6, -, -⟩, hu⟩
    · exact absurd (ht0.trans hk0.symm) ceq
    · exact absurd he6 ceq
def Sim_leave (Rel : St → St → St → St → Prop) : Prop := ∀ (gh gs gr gm : St) (a1 : Int32), Rel gh gs gr gm → ∃ (b6 : Int32) (gm' : St), P_X5_leave gm a1 b6 gm' ∧ P_X4_leave gh gs gr a1 (fun (r : Int32) (gh' gs' gr' : St) => gm' 0 0 = 0 ∧ r = b6 ∧ Rel gh' gs' gr' gm') (fun E : String => (E = E_i ∧ (gm' 0 0 = 1 ∧ ¬ (1 : Int32) = 0 ∧ Rel gh gs gr gm')) ∨ (E = E_s ∧ (gm' 0 0 = 2 ∧ ¬ (2 : Int32) = 0 ∧ Rel gh gs gr gm')))
set_option maxRecDepth 100000 in
set_option maxHeartbeats 4000000 in
theorem law_c7 {p : Program} {l : Launch} {e : Env} {s : State} {m : MethodId} {below : List Frame} {meth : Method} {c : Code} {b L : Nat} {xs : Nat → Int32} {dC : Nat → ClassId} {dI : Nat → Nat → Nat} {cI cJ : ClassId} {o b0 : Nat} {qh qs qr qm : Nat → Nat} {Rel : St → St → St → St → Prop} {x4 : Int32} {k n : Nat} (hE : lw_Env p l s m c b L xs dC dI cI cJ) (hSim : Sim_leave Rel) {j : Nat} (hi : x4 = nI j) (hj : j + 8 ≤ L) (hk : k + 8 ≤ 601024) (hn : n + 48 ≤ 7293034) (kk : law_at p l e s m below meth c b dC dI cI cJ o b0 qh qs qr qm Rel 1750 x4 (k + 8) (n + 48)) : law_at p l e s m below meth c b dC dI cI cJ o b0 qh qs qr qm Rel 645 x4 k n := by
  intro H locs ls gh gs gr gm f hrel hP hD hS hl
  obtain ⟨hx, hb, hml, hown, hts, hX, hbl, hK, hN, hXS, hXH, hfl, hL⟩ := id hE
  have hA : ∀ q : Nat, s.heap.size ≤ q → (fun q : Nat => s.heap.size ≤ q) q := fun _ h => h
  have hbA : ¬ (fun q : Nat => s.heap.size ≤ q) b := Nat.not_le.mpr hbl
  obtain ⟨b6, gm', hm6, hx6⟩ := hSim gh gs gr gm (xs (x4 + (1 : Int32)).toNatClampNeg) hrel
  refine lv_aload_n hx hb dL_law_645 rfl (lv_at hl 3 rfl) ?_
  refine lv_aload_n hx hb dL_law_646 rfl (lv_at hl 4 rfl) ?_
  refine lv_iload hx hb dL_law_647 (lv_at hl 0 rfl) ?_
  refine lv_iconst (v := 1) hx hb dL_law_649 (by decide) ?_
  refine lv_iadd hx hb dL_law_650 ?_
  refine va_sld hx hb hX hbl hbA hS (lw_in hi 1 (by omega) hL) dL_law_651 ?_
  refine lv_aload_n hx hb dL_law_652 rfl (lv_at hl 1 rfl) ?_
  refine tw_S (As := [.ref b0, .int (xs (x4 + (1 : Int32)).toNatClampNeg), .ref o]) (rest := []) (w1 := []) (w2 := wX5 qm cI gm) (wsd := fun u : St × St × St × (Nat → Int64) => wW o cJ u.2.2.2 b0 qh qs qr cI u.1 u.2.1 u.2.2.1 qm gm) ⟨hx, hb, hml, hown, hts⟩ (c_L_leave l hfl dC dI cI cJ o f b0 qh qs qr gh gs gr (xs (x4 + (1 : Int32)).toNatClampNeg) (fun (r : Int32) (gh' gs' gr' : St) => gm' 0 0 = 0 ∧ r = b6 ∧ Rel gh' gs' gr' gm') (fun k : Int32 => gm' 0 0 = k ∧ ¬ k = 0 ∧ Rel gh gs gr gm') hx6 _) (vx_cwSW 3 hts gL_law_L_leave rfl rfl rfl (by decide +kernel) ⟨Nat.le_of_ble_eq_true rfl, Nat.le_of_ble_eq_true rfl⟩) hP hD hS hA hK hN hXS hXH rfl (fun u => rfl) rfl rfl hl.1 (Nat.le_of_ble_eq_true rfl) ⟨by show _ ≤ 601024; omega, by show _ ≤ 7293034; omega⟩ dL_law_653 (fun k5 u H locs hk5 hP hD hS => ?_)
  obtain ⟨uh, us, ur, uf⟩ := u
  refine lv_istore (lv' := [(5, .int k5), (4, .int x4), (3, .ref o), (2, .ref (qm 0)), (1, .ref b0), (0, .ref b)]) hx hb dL_law_656 hl (by decide) rfl (fun ls hl => ?_)
  refine lv_aload_n hx hb dL_law_658 rfl (lv_at hl 3 rfl) ?_
  refine lv_aload_n hx hb dL_law_659 rfl (lv_at hl 5 rfl) ?_
  refine lv_iload hx hb dL_law_660 (lv_at hl 1 rfl) ?_
  refine lv_iconst (v := 1) hx hb dL_law_662 (by decide) ?_
  refine lv_iadd hx hb dL_law_663 ?_
  refine va_sld hx hb hX hbl hbA hS (lw_in hi 1 (by omega) hL) dL_law_664 ?_
  refine wr_Vi (As := [.int (xs (x4 + (1 : Int32)).toNatClampNeg)]) (rest := []) (w1 := wL o cJ uf b0 qh qs qr cI uh us ur) (w2 := []) (ws1 := wW o cJ uf b0 qh qs qr cI uh us ur qm gm') ⟨hx, hb, hml, hown, hts⟩ (c_X5_leave l dC dI cI qm gm (xs (x4 + (1 : Int32)).toNatClampNeg) b6 gm' hm6 _) (cwV 1 hts gL_law_X5_leave rfl rfl rfl (by decide +kernel) ⟨Nat.le_of_ble_eq_true rfl, Nat.le_of_ble_eq_true rfl⟩) hP hD hS hA (hK.sub [0] rfl) hN (wW_M o cJ uf b0 qh qs qr cI uh us ur qm gm) (wW_M o cJ uf b0 qh qs qr cI uh us ur qm gm').symm rfl rfl rfl rfl hl.1 (Nat.le_of_ble_eq_true rfl) ⟨by show _ ≤ 601024; omega, by show _ ≤ 7293034; omega⟩ dL_law_665 (fun H locs hP hD hS => ?_)
  refine lv_istore (lv' := [(6, .int b6), (5, .int k5), (4, .int x4), (3, .ref o), (2, .ref (qm 0)), (1, .ref b0), (0, .ref b)]) hx hb dL_law_668 hl (by decide) rfl (fun ls hl => ?_)
  refine lv_aload_n hx hb dL_law_670 rfl (lv_at hl 4 rfl) ?_
  refine ro_V (As := []) (rest := []) ⟨hx, hb, hml, hown, hts⟩ (c_X5_thrown l dC dI cI qm gm' (gm' 0 0) rfl) (cwV 0 hts gL_law_X5_thrown rfl rfl rfl (by decide +kernel) ⟨Nat.le_of_ble_eq_true rfl, Nat.le_of_ble_eq_true rfl⟩) (tWm hP) (hK.sub [0] rfl) hN rfl rfl rfl rfl hl.1 (Nat.le_of_ble_eq_true rfl) ⟨by show _ ≤ 601024; omega, by show _ ≤ 7293034; omega⟩ dL_law_671 ?_
  refine lv_iload hx hb dL_law_674 (lv_at hl 1 rfl) ?_
  refine lv_icmp_eq (tgt := 681) hx hb dL_law_676 (by decide) (fun ceq => ?_) (fun ceq => ?_)
  · refine lv_iload hx hb dL_law_681 (lv_at hl 1 rfl) ?_
    refine lv_if_ne (tgt := 698) hx hb dL_law_683 (by decide) (fun c5 => ?_) (fun c5 => ?_)
    · rcases hk5 with ⟨hk0, -⟩ | ⟨⟨-, -, hrel6⟩, hu⟩
      · exact absurd hk0 c5
      · cases hu
        refine lv_goto (tgt := 1750) hx hb dL_law_698 (by decide) ?_
        refine W.widen (k := k + 8) (n := n + 48) (by omega) (by omega) ?_
        exact kk _ _ _ gh gs gr gm' f hrel6 hP hD hS (lv_sub hl [2, 3, 4, 5, 6] rfl)
    · rcases hk5 with ⟨hk0, r6, hout, ht0, hr6, hrel6⟩ | ⟨⟨-, hne, -⟩, hu⟩
      · refine lv_aload_n hx hb dL_law_686 rfl (lv_at hl 3 rfl) ?_
        refine lv_iconst (v := 0) hx hb dL_law_687 (by decide) ?_
        refine va_lald hx hb hK hP 0 1 rfl rfl vp01 dL_law_688 ?_
        refine lv_iload hx hb dL_law_689 (lv_at hl 0 rfl) ?_
        refine lv_i2l hx hb dL_law_691 rfl ?_
        refine W.lcmp hx hb dL_law_692 ?_
        refine lv_if_eq (tgt := 698) hx hb dL_law_693 (by decide) (fun c6 => ?_) (fun c6 => ?_)
        · refine lv_goto (tgt := 1750) hx hb dL_law_698 (by decide) ?_
          refine W.widen (k := k + 8) (n := n + 48) (by omega) (by omega) ?_
          exact kk _ _ _ uh us ur gm' uf hrel6 hP hD hS (lv_sub hl [2, 3, 4, 5, 6] rfl)
        · exact absurd (by rw [show uf (0 : Int32).toNatClampNeg = r6.toInt64 from hout, hr6]; exact lw_cmp _) c6
      · exact absurd c5 hne
  · rcases hk5 with ⟨hk0, r6, hout, ht0, hr6, hrel6⟩ | ⟨⟨he6, -, -⟩, hu⟩
    · exact absurd (ht0.trans hk0.symm) ceq
    · exact absurd he6 ceq
def Sim_tableOf (Rel : St → St → St → St → Prop) : Prop := ∀ (gh gs gr gm : St) (a1 : Int32), Rel gh gs gr gm → ∃ (b6 : Int32) (gm' : St), P_X5_tableOf gm a1 b6 gm' ∧ P_X4_tableOf gh gs gr a1 (fun (r : Int32) (gh' gs' gr' : St) => gm' 0 0 = 0 ∧ r = b6 ∧ Rel gh' gs' gr' gm') (fun E : String => (E = E_i ∧ (gm' 0 0 = 1 ∧ ¬ (1 : Int32) = 0 ∧ Rel gh gs gr gm')))
set_option maxRecDepth 100000 in
set_option maxHeartbeats 4000000 in
theorem law_c8 {p : Program} {l : Launch} {e : Env} {s : State} {m : MethodId} {below : List Frame} {meth : Method} {c : Code} {b L : Nat} {xs : Nat → Int32} {dC : Nat → ClassId} {dI : Nat → Nat → Nat} {cI cJ : ClassId} {o b0 : Nat} {qh qs qr qm : Nat → Nat} {Rel : St → St → St → St → Prop} {x4 : Int32} {k n : Nat} (hE : lw_Env p l s m c b L xs dC dI cI cJ) (hSim : Sim_tableOf Rel) {j : Nat} (hi : x4 = nI j) (hj : j + 8 ≤ L) (hk : k + 8 ≤ 601024) (hn : n + 48 ≤ 7293034) (kk : law_at p l e s m below meth c b dC dI cI cJ o b0 qh qs qr qm Rel 1750 x4 (k + 8) (n + 48)) : law_at p l e s m below meth c b dC dI cI cJ o b0 qh qs qr qm Rel 701 x4 k n := by
  intro H locs ls gh gs gr gm f hrel hP hD hS hl
  obtain ⟨hx, hb, hml, hown, hts, hX, hbl, hK, hN, hXS, hXH, hfl, hL⟩ := id hE
  have hA : ∀ q : Nat, s.heap.size ≤ q → (fun q : Nat => s.heap.size ≤ q) q := fun _ h => h
  have hbA : ¬ (fun q : Nat => s.heap.size ≤ q) b := Nat.not_le.mpr hbl
  obtain ⟨b6, gm', hm6, hx6⟩ := hSim gh gs gr gm (xs (x4 + (1 : Int32)).toNatClampNeg) hrel
  refine lv_aload_n hx hb dL_law_701 rfl (lv_at hl 3 rfl) ?_
  refine lv_aload_n hx hb dL_law_702 rfl (lv_at hl 4 rfl) ?_
  refine lv_iload hx hb dL_law_703 (lv_at hl 0 rfl) ?_
  refine lv_iconst (v := 1) hx hb dL_law_705 (by decide) ?_
  refine lv_iadd hx hb dL_law_706 ?_
  refine va_sld hx hb hX hbl hbA hS (lw_in hi 1 (by omega) hL) dL_law_707 ?_
  refine lv_aload_n hx hb dL_law_708 rfl (lv_at hl 1 rfl) ?_
  refine tw_S (As := [.ref b0, .int (xs (x4 + (1 : Int32)).toNatClampNeg), .ref o]) (rest := []) (w1 := []) (w2 := wX5 qm cI gm) (wsd := fun u : St × St × St × (Nat → Int64) => wW o cJ u.2.2.2 b0 qh qs qr cI u.1 u.2.1 u.2.2.1 qm gm) ⟨hx, hb, hml, hown, hts⟩ (c_L_tableOf l hfl dC dI cI cJ o f b0 qh qs qr gh gs gr (xs (x4 + (1 : Int32)).toNatClampNeg) (fun (r : Int32) (gh' gs' gr' : St) => gm' 0 0 = 0 ∧ r = b6 ∧ Rel gh' gs' gr' gm') (fun k : Int32 => gm' 0 0 = k ∧ ¬ k = 0 ∧ Rel gh gs gr gm') hx6 _) (vx_cwSW 3 hts gL_law_L_tableOf rfl rfl rfl (by decide +kernel) ⟨Nat.le_of_ble_eq_true rfl, Nat.le_of_ble_eq_true rfl⟩) hP hD hS hA hK hN hXS hXH rfl (fun u => rfl) rfl rfl hl.1 (Nat.le_of_ble_eq_true rfl) ⟨by show _ ≤ 601024; omega, by show _ ≤ 7293034; omega⟩ dL_law_709 (fun k5 u H locs hk5 hP hD hS => ?_)
  obtain ⟨uh, us, ur, uf⟩ := u
  refine lv_istore (lv' := [(5, .int k5), (4, .int x4), (3, .ref o), (2, .ref (qm 0)), (1, .ref b0), (0, .ref b)]) hx hb dL_law_712 hl (by decide) rfl (fun ls hl => ?_)
  refine lv_aload_n hx hb dL_law_714 rfl (lv_at hl 3 rfl) ?_
  refine lv_aload_n hx hb dL_law_715 rfl (lv_at hl 5 rfl) ?_
  refine lv_iload hx hb dL_law_716 (lv_at hl 1 rfl) ?_
  refine lv_iconst (v := 1) hx hb dL_law_718 (by decide) ?_
  refine lv_iadd hx hb dL_law_719 ?_
  refine va_sld hx hb hX hbl hbA hS (lw_in hi 1 (by omega) hL) dL_law_720 ?_
  refine wr_Vi (As := [.int (xs (x4 + (1 : Int32)).toNatClampNeg)]) (rest := []) (w1 := wL o cJ uf b0 qh qs qr cI uh us ur) (w2 := []) (ws1 := wW o cJ uf b0 qh qs qr cI uh us ur qm gm') ⟨hx, hb, hml, hown, hts⟩ (c_X5_tableOf l dC dI cI qm gm (xs (x4 + (1 : Int32)).toNatClampNeg) b6 gm' hm6 _) (cwV 1 hts gL_law_X5_tableOf rfl rfl rfl (by decide +kernel) ⟨Nat.le_of_ble_eq_true rfl, Nat.le_of_ble_eq_true rfl⟩) hP hD hS hA (hK.sub [0] rfl) hN (wW_M o cJ uf b0 qh qs qr cI uh us ur qm gm) (wW_M o cJ uf b0 qh qs qr cI uh us ur qm gm').symm rfl rfl rfl rfl hl.1 (Nat.le_of_ble_eq_true rfl) ⟨by show _ ≤ 601024; omega, by show _ ≤ 7293034; omega⟩ dL_law_721 (fun H locs hP hD hS => ?_)
  refine lv_istore (lv' := [(6, .int b6), (5, .int k5), (4, .int x4), (3, .ref o), (2, .ref (qm 0)), (1, .ref b0), (0, .ref b)]) hx hb dL_law_724 hl (by decide) rfl (fun ls hl => ?_)
  refine lv_aload_n hx hb dL_law_726 rfl (lv_at hl 4 rfl) ?_
  refine ro_V (As := []) (rest := []) ⟨hx, hb, hml, hown, hts⟩ (c_X5_thrown l dC dI cI qm gm' (gm' 0 0) rfl) (cwV 0 hts gL_law_X5_thrown rfl rfl rfl (by decide +kernel) ⟨Nat.le_of_ble_eq_true rfl, Nat.le_of_ble_eq_true rfl⟩) (tWm hP) (hK.sub [0] rfl) hN rfl rfl rfl rfl hl.1 (Nat.le_of_ble_eq_true rfl) ⟨by show _ ≤ 601024; omega, by show _ ≤ 7293034; omega⟩ dL_law_727 ?_
  refine lv_iload hx hb dL_law_730 (lv_at hl 1 rfl) ?_
  refine lv_icmp_eq (tgt := 737) hx hb dL_law_732 (by decide) (fun ceq => ?_) (fun ceq => ?_)
  · refine lv_iload hx hb dL_law_737 (lv_at hl 1 rfl) ?_
    refine lv_if_ne (tgt := 754) hx hb dL_law_739 (by decide) (fun c5 => ?_) (fun c5 => ?_)
    · rcases hk5 with ⟨hk0, -⟩ | ⟨⟨-, -, hrel6⟩, hu⟩
      · exact absurd hk0 c5
      · cases hu
        refine lv_goto (tgt := 1750) hx hb dL_law_754 (by decide) ?_
        refine W.widen (k := k + 8) (n := n + 48) (by omega) (by omega) ?_
        exact kk _ _ _ gh gs gr gm' f hrel6 hP hD hS (lv_sub hl [2, 3, 4, 5, 6] rfl)
    · rcases hk5 with ⟨hk0, r6, hout, ht0, hr6, hrel6⟩ | ⟨⟨-, hne, -⟩, hu⟩
      · refine lv_aload_n hx hb dL_law_742 rfl (lv_at hl 3 rfl) ?_
        refine lv_iconst (v := 0) hx hb dL_law_743 (by decide) ?_
        refine va_lald hx hb hK hP 0 1 rfl rfl vp01 dL_law_744 ?_
        refine lv_iload hx hb dL_law_745 (lv_at hl 0 rfl) ?_
        refine lv_i2l hx hb dL_law_747 rfl ?_
        refine W.lcmp hx hb dL_law_748 ?_
        refine lv_if_eq (tgt := 754) hx hb dL_law_749 (by decide) (fun c6 => ?_) (fun c6 => ?_)
        · refine lv_goto (tgt := 1750) hx hb dL_law_754 (by decide) ?_
          refine W.widen (k := k + 8) (n := n + 48) (by omega) (by omega) ?_
          exact kk _ _ _ uh us ur gm' uf hrel6 hP hD hS (lv_sub hl [2, 3, 4, 5, 6] rfl)
        · exact absurd (by rw [show uf (0 : Int32).toNatClampNeg = r6.toInt64 from hout, hr6]; exact lw_cmp _) c6
      · exact absurd c5 hne
  · rcases hk5 with ⟨hk0, r6, hout, ht0, hr6, hrel6⟩ | ⟨⟨he6, -, -⟩, hu⟩
    · exact absurd (ht0.trans hk0.symm) ceq
    · exact absurd he6 ceq
def Sim_tablesOf (Rel : St → St → St → St → Prop) : Prop := ∀ (gh gs gr gm : St) (a1 : Int32), Rel gh gs gr gm → ∃ (b6 : Int32) (gm' : St), P_X5_tablesOf gm a1 b6 gm' ∧ P_X4_tablesOf gh gs gr a1 (fun (r : Int32) (gh' gs' gr' : St) => gm' 0 0 = 0 ∧ r = b6 ∧ Rel gh' gs' gr' gm') (fun E : String => (E = E_i ∧ (gm' 0 0 = 1 ∧ ¬ (1 : Int32) = 0 ∧ Rel gh gs gr gm')))
set_option maxRecDepth 100000 in
set_option maxHeartbeats 4000000 in
theorem law_c9 {p : Program} {l : Launch} {e : Env} {s : State} {m : MethodId} {below : List Frame} {meth : Method} {c : Code} {b L : Nat} {xs : Nat → Int32} {dC : Nat → ClassId} {dI : Nat → Nat → Nat} {cI cJ : ClassId} {o b0 : Nat} {qh qs qr qm : Nat → Nat} {Rel : St → St → St → St → Prop} {x4 : Int32} {k n : Nat} (hE : lw_Env p l s m c b L xs dC dI cI cJ) (hSim : Sim_tablesOf Rel) {j : Nat} (hi : x4 = nI j) (hj : j + 8 ≤ L) (hk : k + 8 ≤ 601024) (hn : n + 48 ≤ 7293034) (kk : law_at p l e s m below meth c b dC dI cI cJ o b0 qh qs qr qm Rel 1750 x4 (k + 8) (n + 48)) : law_at p l e s m below meth c b dC dI cI cJ o b0 qh qs qr qm Rel 757 x4 k n := by
  intro H locs ls gh gs gr gm f hrel hP hD hS hl
  obtain ⟨hx, hb, hml, hown, hts, hX, hbl, hK, hN, hXS, hXH, hfl, hL⟩ := id hE
  have hA : ∀ q : Nat, s.heap.size ≤ q → (fun q : Nat => s.heap.size ≤ q) q := fun _ h => h
  have hbA : ¬ (fun q : Nat => s.heap.size ≤ q) b := Nat.not_le.mpr hbl
  obtain ⟨b6, gm', hm6, hx6⟩ := hSim gh gs gr gm (xs (x4 + (1 : Int32)).toNatClampNeg) hrel
  refine lv_aload_n hx hb dL_law_757 rfl (lv_at hl 3 rfl) ?_
  refine lv_aload_n hx hb dL_law_758 rfl (lv_at hl 4 rfl) ?_
  refine lv_iload hx hb dL_law_759 (lv_at hl 0 rfl) ?_
  refine lv_iconst (v := 1) hx hb dL_law_761 (by decide) ?_
  refine lv_iadd hx hb dL_law_762 ?_
  refine va_sld hx hb hX hbl hbA hS (lw_in hi 1 (by omega) hL) dL_law_763 ?_
  refine lv_aload_n hx hb dL_law_764 rfl (lv_at hl 1 rfl) ?_
  refine tw_S (As := [.ref b0, .int (xs (x4 + (1 : Int32)).toNatClampNeg), .ref o]) (rest := []) (w1 := []) (w2 := wX5 qm cI gm) (wsd := fun u : St × St × St × (Nat → Int64) => wW o cJ u.2.2.2 b0 qh qs qr cI u.1 u.2.1 u.2.2.1 qm gm) ⟨hx, hb, hml, hown, hts⟩ (c_L_tablesOf l hfl dC dI cI cJ o f b0 qh qs qr gh gs gr (xs (x4 + (1 : Int32)).toNatClampNeg) (fun (r : Int32) (gh' gs' gr' : St) => gm' 0 0 = 0 ∧ r = b6 ∧ Rel gh' gs' gr' gm') (fun k : Int32 => gm' 0 0 = k ∧ ¬ k = 0 ∧ Rel gh gs gr gm') hx6 _) (vx_cwSW 3 hts gL_law_L_tablesOf rfl rfl rfl (by decide +kernel) ⟨Nat.le_of_ble_eq_true rfl, Nat.le_of_ble_eq_true rfl⟩) hP hD hS hA hK hN hXS hXH rfl (fun u => rfl) rfl rfl hl.1 (Nat.le_of_ble_eq_true rfl) ⟨by show _ ≤ 601024; omega, by show _ ≤ 7293034; omega⟩ dL_law_765 (fun k5 u H locs hk5 hP hD hS => ?_)
  obtain ⟨uh, us, ur, uf⟩ := u
  refine lv_istore (lv' := [(5, .int k5), (4, .int x4), (3, .ref o), (2, .ref (qm 0)), (1, .ref b0), (0, .ref b)]) hx hb dL_law_768 hl (by decide) rfl (fun ls hl => ?_)
  refine lv_aload_n hx hb dL_law_770 rfl (lv_at hl 3 rfl) ?_
  refine lv_aload_n hx hb dL_law_771 rfl (lv_at hl 5 rfl) ?_
  refine lv_iload hx hb dL_law_772 (lv_at hl 1 rfl) ?_
  refine lv_iconst (v := 1) hx hb dL_law_774 (by decide) ?_
  refine lv_iadd hx hb dL_law_775 ?_
  refine va_sld hx hb hX hbl hbA hS (lw_in hi 1 (by omega) hL) dL_law_776 ?_
  refine wr_Vi (As := [.int (xs (x4 + (1 : Int32)).toNatClampNeg)]) (rest := []) (w1 := wL o cJ uf b0 qh qs qr cI uh us ur) (w2 := []) (ws1 := wW o cJ uf b0 qh qs qr cI uh us ur qm gm') ⟨hx, hb, hml, hown, hts⟩ (c_X5_tablesOf l dC dI cI qm gm (xs (x4 + (1 : Int32)).toNatClampNeg) b6 gm' hm6 _) (cwV 1 hts gL_law_X5_tablesOf rfl rfl rfl (by decide +kernel) ⟨Nat.le_of_ble_eq_true rfl, Nat.le_of_ble_eq_true rfl⟩) hP hD hS hA (hK.sub [0] rfl) hN (wW_M o cJ uf b0 qh qs qr cI uh us ur qm gm) (wW_M o cJ uf b0 qh qs qr cI uh us ur qm gm').symm rfl rfl rfl rfl hl.1 (Nat.le_of_ble_eq_true rfl) ⟨by show _ ≤ 601024; omega, by show _ ≤ 7293034; omega⟩ dL_law_777 (fun H locs hP hD hS => ?_)
  refine lv_istore (lv' := [(6, .int b6), (5, .int k5), (4, .int x4), (3, .ref o), (2, .ref (qm 0)), (1, .ref b0), (0, .ref b)]) hx hb dL_law_780 hl (by decide) rfl (fun ls hl => ?_)
  refine lv_aload_n hx hb dL_law_782 rfl (lv_at hl 4 rfl) ?_
  refine ro_V (As := []) (rest := []) ⟨hx, hb, hml, hown, hts⟩ (c_X5_thrown l dC dI cI qm gm' (gm' 0 0) rfl) (cwV 0 hts gL_law_X5_thrown rfl rfl rfl (by decide +kernel) ⟨Nat.le_of_ble_eq_true rfl, Nat.le_of_ble_eq_true rfl⟩) (tWm hP) (hK.sub [0] rfl) hN rfl rfl rfl rfl hl.1 (Nat.le_of_ble_eq_true rfl) ⟨by show _ ≤ 601024; omega, by show _ ≤ 7293034; omega⟩ dL_law_783 ?_
  refine lv_iload hx hb dL_law_786 (lv_at hl 1 rfl) ?_
  refine lv_icmp_eq (tgt := 793) hx hb dL_law_788 (by decide) (fun ceq => ?_) (fun ceq => ?_)
  · refine lv_iload hx hb dL_law_793 (lv_at hl 1 rfl) ?_
    refine lv_if_ne (tgt := 810) hx hb dL_law_795 (by decide) (fun c5 => ?_) (fun c5 => ?_)
    · rcases hk5 with ⟨hk0, -⟩ | ⟨⟨-, -, hrel6⟩, hu⟩
      · exact absurd hk0 c5
      · cases hu
        refine lv_goto (tgt := 1750) hx hb dL_law_810 (by decide) ?_
        refine W.widen (k := k + 8) (n := n + 48) (by omega) (by omega) ?_
        exact kk _ _ _ gh gs gr gm' f hrel6 hP hD hS (lv_sub hl [2, 3, 4, 5, 6] rfl)
    · rcases hk5 with ⟨hk0, r6, hout, ht0, hr6, hrel6⟩ | ⟨⟨-, hne, -⟩, hu⟩
      · refine lv_aload_n hx hb dL_law_798 rfl (lv_at hl 3 rfl) ?_
        refine lv_iconst (v := 0) hx hb dL_law_799 (by decide) ?_
        refine va_lald hx hb hK hP 0 1 rfl rfl vp01 dL_law_800 ?_
        refine lv_iload hx hb dL_law_801 (lv_at hl 0 rfl) ?_
        refine lv_i2l hx hb dL_law_803 rfl ?_
        refine W.lcmp hx hb dL_law_804 ?_
        refine lv_if_eq (tgt := 810) hx hb dL_law_805 (by decide) (fun c6 => ?_) (fun c6 => ?_)
        · refine lv_goto (tgt := 1750) hx hb dL_law_810 (by decide) ?_
          refine W.widen (k := k + 8) (n := n + 48) (by omega) (by omega) ?_
          exact kk _ _ _ uh us ur gm' uf hrel6 hP hD hS (lv_sub hl [2, 3, 4, 5, 6] rfl)
        · exact absurd (by rw [show uf (0 : Int32).toNatClampNeg = r6.toInt64 from hout, hr6]; exact lw_cmp _) c6
      · exact absurd c5 hne
  · rcases hk5 with ⟨hk0, r6, hout, ht0, hr6, hrel6⟩ | ⟨⟨he6, -, -⟩, hu⟩
    · exact absurd (ht0.trans hk0.symm) ceq
    · exact absurd he6 ceq
def Sim_waiting (Rel : St → St → St → St → Prop) : Prop := ∀ (gh gs gr gm : St), Rel gh gs gr gm → ∃ (b6 : Int32) (gm' : St), P_X5_waiting gm b6 gm' ∧ P_X4_waiting gh gs gr b6 ∧ Rel gh gs gr gm'
set_option maxRecDepth 100000 in
set_option maxHeartbeats 4000000 in
theorem law_c10 {p : Program} {l : Launch} {e : Env} {s : State} {m : MethodId} {below : List Frame} {meth : Method} {c : Code} {b L : Nat} {xs : Nat → Int32} {dC : Nat → ClassId} {dI : Nat → Nat → Nat} {cI cJ : ClassId} {o b0 : Nat} {qh qs qr qm : Nat → Nat} {Rel : St → St → St → St → Prop} {x4 : Int32} {k n : Nat} (hE : lw_Env p l s m c b L xs dC dI cI cJ) (hSim : Sim_waiting Rel) {j : Nat} (hi : x4 = nI j) (hj : j + 8 ≤ L) (hk : k + 8 ≤ 601024) (hn : n + 48 ≤ 7293034) (kk : law_at p l e s m below meth c b dC dI cI cJ o b0 qh qs qr qm Rel 1750 x4 (k + 8) (n + 48)) : law_at p l e s m below meth c b dC dI cI cJ o b0 qh qs qr qm Rel 813 x4 k n := by
  intro H locs ls gh gs gr gm f hrel hP hD hS hl
  obtain ⟨hx, hb, hml, hown, hts, hX, hbl, hK, hN, hXS, hXH, hfl, hL⟩ := id hE
  have hA : ∀ q : Nat, s.heap.size ≤ q → (fun q : Nat => s.heap.size ≤ q) q := fun _ h => h
  have hbA : ¬ (fun q : Nat => s.heap.size ≤ q) b := Nat.not_le.mpr hbl
  obtain ⟨b6, gm', hm6, hx6, hrel6⟩ := hSim gh gs gr gm hrel
  refine lv_aload_n hx hb dL_law_813 rfl (lv_at hl 3 rfl) ?_
  refine ro_V (As := []) (rest := []) ⟨hx, hb, hml, hown, hts⟩ (c_X4_waiting l dC dI cI b0 qh qs qr gh gs gr b6 hx6) (cwV 0 hts gL_law_X4_waiting rfl rfl rfl (by decide +kernel) ⟨Nat.le_of_ble_eq_true rfl, Nat.le_of_ble_eq_true rfl⟩) (tW4 hP) (hK.sub [0] rfl) hN rfl rfl rfl rfl hl.1 (Nat.le_of_ble_eq_true rfl) ⟨by show _ ≤ 601024; omega, by show _ ≤ 7293034; omega⟩ dL_law_814 ?_
  refine lv_aload_n hx hb dL_law_817 rfl (lv_at hl 2 rfl) ?_
  refine wr_Vi (As := []) (rest := [.int b6]) (w1 := wL o cJ f b0 qh qs qr cI gh gs gr) (w2 := []) (ws1 := wW o cJ f b0 qh qs qr cI gh gs gr qm gm') ⟨hx, hb, hml, hown, hts⟩ (c_X5_waiting l dC dI cI qm gm b6 gm' hm6 _) (cwV 0 hts gL_law_X5_waiting rfl rfl rfl (by decide +kernel) ⟨Nat.le_of_ble_eq_true rfl, Nat.le_of_ble_eq_true rfl⟩) hP hD hS hA (hK.sub [0] rfl) hN (wW_M o cJ f b0 qh qs qr cI gh gs gr qm gm) (wW_M o cJ f b0 qh qs qr cI gh gs gr qm gm').symm rfl rfl rfl rfl hl.1 (Nat.le_of_ble_eq_true rfl) ⟨by show _ ≤ 601024; omega, by show _ ≤ 7293034; omega⟩ dL_law_818 (fun H locs hP hD hS => ?_)
  refine lv_icmp_eq (tgt := 1750) hx hb dL_law_821 (by decide) (fun ceq => ?_) (fun ceq => ?_)
  · refine W.widen (k := k + 8) (n := n + 48) (by omega) (by omega) ?_
    exact kk _ _ _ gh gs gr gm' f hrel6 hP hD hS (lv_sub hl [0, 1, 2, 3, 4] rfl)
  · exact absurd rfl ceq
def Sim_waste (Rel : St → St → St → St → Prop) : Prop := ∀ (gh gs gr gm : St) (a1 : Int32), Rel gh gs gr gm → ∃ (b6 : Int32) (gm' : St), P_X5_waste gm a1 b6 gm' ∧ P_X4_waste gh gs gr a1 (fun (r : Int32) (gh' gs' gr' : St) => gm' 0 0 = 0 ∧ r = b6 ∧ Rel gh' gs' gr' gm') (fun E : String => (E = E_a ∧ (gm' 0 0 = 1 ∧ ¬ (1 : Int32) = 0 ∧ Rel gh gs gr gm')))
set_option maxRecDepth 100000 in
set_option maxHeartbeats 4000000 in
theorem law_c11 {p : Program} {l : Launch} {e : Env} {s : State} {m : MethodId} {below : List Frame} {meth : Method} {c : Code} {b L : Nat} {xs : Nat → Int32} {dC : Nat → ClassId} {dI : Nat → Nat → Nat} {cI cJ : ClassId} {o b0 : Nat} {qh qs qr qm : Nat → Nat} {Rel : St → St → St → St → Prop} {x4 : Int32} {k n : Nat} (hE : lw_Env p l s m c b L xs dC dI cI cJ) (hSim : Sim_waste Rel) {j : Nat} (hi : x4 = nI j) (hj : j + 8 ≤ L) (hk : k + 8 ≤ 601024) (hn : n + 48 ≤ 7293034) (kk : law_at p l e s m below meth c b dC dI cI cJ o b0 qh qs qr qm Rel 1750 x4 (k + 8) (n + 48)) : law_at p l e s m below meth c b dC dI cI cJ o b0 qh qs qr qm Rel 826 x4 k n := by
  intro H locs ls gh gs gr gm f hrel hP hD hS hl
  obtain ⟨hx, hb, hml, hown, hts, hX, hbl, hK, hN, hXS, hXH, hfl, hL⟩ := id hE
  have hA : ∀ q : Nat, s.heap.size ≤ q → (fun q : Nat => s.heap.size ≤ q) q := fun _ h => h
  have hbA : ¬ (fun q : Nat => s.heap.size ≤ q) b := Nat.not_le.mpr hbl
  obtain ⟨b6, gm', hm6, hx6⟩ := hSim gh gs gr gm (xs (x4 + (1 : Int32)).toNatClampNeg) hrel
  refine lv_aload_n hx hb dL_law_826 rfl (lv_at hl 3 rfl) ?_
  refine lv_aload_n hx hb dL_law_827 rfl (lv_at hl 4 rfl) ?_
  refine lv_iload hx hb dL_law_828 (lv_at hl 0 rfl) ?_
  refine lv_iconst (v := 1) hx hb dL_law_830 (by decide) ?_
  refine lv_iadd hx hb dL_law_831 ?_
  refine va_sld hx hb hX hbl hbA hS (lw_in hi 1 (by omega) hL) dL_law_832 ?_
  refine lv_aload_n hx hb dL_law_833 rfl (lv_at hl 1 rfl) ?_
  refine tw_S (As := [.ref b0, .int (xs (x4 + (1 : Int32)).toNatClampNeg), .ref o]) (rest := []) (w1 := []) (w2 := wX5 qm cI gm) (wsd := fun u : St × St × St × (Nat → Int64) => wW o cJ u.2.2.2 b0 qh qs qr cI u.1 u.2.1 u.2.2.1 qm gm) ⟨hx, hb, hml, hown, hts⟩ (c_L_waste l hfl dC dI cI cJ o f b0 qh qs qr gh gs gr (xs (x4 + (1 : Int32)).toNatClampNeg) (fun (r : Int32) (gh' gs' gr' : St) => gm' 0 0 = 0 ∧ r = b6 ∧ Rel gh' gs' gr' gm') (fun k : Int32 => gm' 0 0 = k ∧ ¬ k = 0 ∧ Rel gh gs gr gm') hx6 _) (vx_cwSW 3 hts gL_law_L_waste rfl rfl rfl (by decide +kernel) ⟨Nat.le_of_ble_eq_true rfl, Nat.le_of_ble_eq_true rfl⟩) hP hD hS hA hK hN hXS hXH rfl (fun u => rfl) rfl rfl hl.1 (Nat.le_of_ble_eq_true rfl) ⟨by show _ ≤ 601024; omega, by show _ ≤ 7293034; omega⟩ dL_law_834 (fun k5 u H locs hk5 hP hD hS => ?_)
  obtain ⟨uh, us, ur, uf⟩ := u
  refine lv_istore (lv' := [(5, .int k5), (4, .int x4), (3, .ref o), (2, .ref (qm 0)), (1, .ref b0), (0, .ref b)]) hx hb dL_law_837 hl (by decide) rfl (fun ls hl => ?_)
  refine lv_aload_n hx hb dL_law_839 rfl (lv_at hl 3 rfl) ?_
  refine lv_aload_n hx hb dL_law_840 rfl (lv_at hl 5 rfl) ?_
  refine lv_iload hx hb dL_law_841 (lv_at hl 1 rfl) ?_
  refine lv_iconst (v := 1) hx hb dL_law_843 (by decide) ?_
  refine lv_iadd hx hb dL_law_844 ?_
  refine va_sld hx hb hX hbl hbA hS (lw_in hi 1 (by omega) hL) dL_law_845 ?_
  refine wr_Vi (As := [.int (xs (x4 + (1 : Int32)).toNatClampNeg)]) (rest := []) (w1 := wL o cJ uf b0 qh qs qr cI uh us ur) (w2 := []) (ws1 := wW o cJ uf b0 qh qs qr cI uh us ur qm gm') ⟨hx, hb, hml, hown, hts⟩ (c_X5_waste l dC dI cI qm gm (xs (x4 + (1 : Int32)).toNatClampNeg) b6 gm' hm6 _) (cwV 1 hts gL_law_X5_waste rfl rfl rfl (by decide +kernel) ⟨Nat.le_of_ble_eq_true rfl, Nat.le_of_ble_eq_true rfl⟩) hP hD hS hA (hK.sub [0] rfl) hN (wW_M o cJ uf b0 qh qs qr cI uh us ur qm gm) (wW_M o cJ uf b0 qh qs qr cI uh us ur qm gm').symm rfl rfl rfl rfl hl.1 (Nat.le_of_ble_eq_true rfl) ⟨by show _ ≤ 601024; omega, by show _ ≤ 7293034; omega⟩ dL_law_846 (fun H locs hP hD hS => ?_)
  refine lv_istore (lv' := [(6, .int b6), (5, .int k5), (4, .int x4), (3, .ref o), (2, .ref (qm 0)), (1, .ref b0), (0, .ref b)]) hx hb dL_law_849 hl (by decide) rfl (fun ls hl => ?_)
  refine lv_aload_n hx hb dL_law_851 rfl (lv_at hl 4 rfl) ?_
  refine ro_V (As := []) (rest := []) ⟨hx, hb, hml, hown, hts⟩ (c_X5_thrown l dC dI cI qm gm' (gm' 0 0) rfl) (cwV 0 hts gL_law_X5_thrown rfl rfl rfl (by decide +kernel) ⟨Nat.le_of_ble_eq_true rfl, Nat.le_of_ble_eq_true rfl⟩) (tWm hP) (hK.sub [0] rfl) hN rfl rfl rfl rfl hl.1 (Nat.le_of_ble_eq_true rfl) ⟨by show _ ≤ 601024; omega, by show _ ≤ 7293034; omega⟩ dL_law_852 ?_
  refine lv_iload hx hb dL_law_855 (lv_at hl 1 rfl) ?_
  refine lv_icmp_eq (tgt := 862) hx hb dL_law_857 (by decide) (fun ceq => ?_) (fun ceq => ?_)
  · refine lv_iload hx hb dL_law_862 (lv_at hl 1 rfl) ?_
    refine lv_if_ne (tgt := 879) hx hb dL_law_864 (by decide) (fun c5 => ?_) (fun c5 => ?_)
    · rcases hk5 with ⟨hk0, -⟩ | ⟨⟨-, -, hrel6⟩, hu⟩
      · exact absurd hk0 c5
      · cases hu
        refine lv_goto (tgt := 1750) hx hb dL_law_879 (by decide) ?_
        refine W.widen (k := k + 8) (n := n + 48) (by omega) (by omega) ?_
        exact kk _ _ _ gh gs gr gm' f hrel6 hP hD hS (lv_sub hl [2, 3, 4, 5, 6] rfl)
    · rcases hk5 with ⟨hk0, r6, hout, ht0, hr6, hrel6⟩ | ⟨⟨-, hne, -⟩, hu⟩
      · refine lv_aload_n hx hb dL_law_867 rfl (lv_at hl 3 rfl) ?_
        refine lv_iconst (v := 0) hx hb dL_law_868 (by decide) ?_
        refine va_lald hx hb hK hP 0 1 rfl rfl vp01 dL_law_869 ?_
        refine lv_iload hx hb dL_law_870 (lv_at hl 0 rfl) ?_
        refine lv_i2l hx hb dL_law_872 rfl ?_
        refine W.lcmp hx hb dL_law_873 ?_
        refine lv_if_eq (tgt := 879) hx hb dL_law_874 (by decide) (fun c6 => ?_) (fun c6 => ?_)
        · refine lv_goto (tgt := 1750) hx hb dL_law_879 (by decide) ?_
          refine W.widen (k := k + 8) (n := n + 48) (by omega) (by omega) ?_
          exact kk _ _ _ uh us ur gm' uf hrel6 hP hD hS (lv_sub hl [2, 3, 4, 5, 6] rfl)
        · exact absurd (by rw [show uf (0 : Int32).toNatClampNeg = r6.toInt64 from hout, hr6]; exact lw_cmp _) c6
      · exact absurd c5 hne
  · rcases hk5 with ⟨hk0, r6, hout, ht0, hr6, hrel6⟩ | ⟨⟨he6, -, -⟩, hu⟩
    · exact absurd (ht0.trans hk0.symm) ceq
    · exact absurd he6 ceq
def Sim_wasteByAll (Rel : St → St → St → St → Prop) : Prop := ∀ (gh gs gr gm : St) (a1 : Int32), Rel gh gs gr gm → ∃ (b6 : Int32) (gm' : St), P_X5_wasteByAll gm a1 b6 gm' ∧ P_X4_wasteByAll gh gs gr a1 (fun (r : Int32) (gh' gs' gr' : St) => gm' 0 0 = 0 ∧ r = b6 ∧ Rel gh' gs' gr' gm') (fun E : String => (E = E_a ∧ (gm' 0 0 = 1 ∧ ¬ (1 : Int32) = 0 ∧ Rel gh gs gr gm')))
set_option maxRecDepth 100000 in
set_option maxHeartbeats 4000000 in
theorem law_c12 {p : Program} {l : Launch} {e : Env} {s : State} {m : MethodId} {below : List Frame} {meth : Method} {c : Code} {b L : Nat} {xs : Nat → Int32} {dC : Nat → ClassId} {dI : Nat → Nat → Nat} {cI cJ : ClassId} {o b0 : Nat} {qh qs qr qm : Nat → Nat} {Rel : St → St → St → St → Prop} {x4 : Int32} {k n : Nat} (hE : lw_Env p l s m c b L xs dC dI cI cJ) (hSim : Sim_wasteByAll Rel) {j : Nat} (hi : x4 = nI j) (hj : j + 8 ≤ L) (hk : k + 8 ≤ 601024) (hn : n + 48 ≤ 7293034) (kk : law_at p l e s m below meth c b dC dI cI cJ o b0 qh qs qr qm Rel 1750 x4 (k + 8) (n + 48)) : law_at p l e s m below meth c b dC dI cI cJ o b0 qh qs qr qm Rel 882 x4 k n := by
  intro H locs ls gh gs gr gm f hrel hP hD hS hl
  obtain ⟨hx, hb, hml, hown, hts, hX, hbl, hK, hN, hXS, hXH, hfl, hL⟩ := id hE
  have hA : ∀ q : Nat, s.heap.size ≤ q → (fun q : Nat => s.heap.size ≤ q) q := fun _ h => h
  have hbA : ¬ (fun q : Nat => s.heap.size ≤ q) b := Nat.not_le.mpr hbl
  obtain ⟨b6, gm', hm6, hx6⟩ := hSim gh gs gr gm (xs (x4 + (1 : Int32)).toNatClampNeg) hrel
  refine lv_aload_n hx hb dL_law_882 rfl (lv_at hl 3 rfl) ?_
  refine lv_aload_n hx hb dL_law_883 rfl (lv_at hl 4 rfl) ?_
  refine lv_iload hx hb dL_law_884 (lv_at hl 0 rfl) ?_
  refine lv_iconst (v := 1) hx hb dL_law_886 (by decide) ?_
  refine lv_iadd hx hb dL_law_887 ?_
  refine va_sld hx hb hX hbl hbA hS (lw_in hi 1 (by omega) hL) dL_law_888 ?_
  refine lv_aload_n hx hb dL_law_889 rfl (lv_at hl 1 rfl) ?_
  refine tw_S (As := [.ref b0, .int (xs (x4 + (1 : Int32)).toNatClampNeg), .ref o]) (rest := []) (w1 := []) (w2 := wX5 qm cI gm) (wsd := fun u : St × St × St × (Nat → Int64) => wW o cJ u.2.2.2 b0 qh qs qr cI u.1 u.2.1 u.2.2.1 qm gm) ⟨hx, hb, hml, hown, hts⟩ (c_L_wasteByAll l hfl dC dI cI cJ o f b0 qh qs qr gh gs gr (xs (x4 + (1 : Int32)).toNatClampNeg) (fun (r : Int32) (gh' gs' gr' : St) => gm' 0 0 = 0 ∧ r = b6 ∧ Rel gh' gs' gr' gm') (fun k : Int32 => gm' 0 0 = k ∧ ¬ k = 0 ∧ Rel gh gs gr gm') hx6 _) (vx_cwSW 3 hts gL_law_L_wasteByAll rfl rfl rfl (by decide +kernel) ⟨Nat.le_of_ble_eq_true rfl, Nat.le_of_ble_eq_true rfl⟩) hP hD hS hA hK hN hXS hXH rfl (fun u => rfl) rfl rfl hl.1 (Nat.le_of_ble_eq_true rfl) ⟨by show _ ≤ 601024; omega, by show _ ≤ 7293034; omega⟩ dL_law_890 (fun k5 u H locs hk5 hP hD hS => ?_)
  obtain ⟨uh, us, ur, uf⟩ := u
  refine lv_istore (lv' := [(5, .int k5), (4, .int x4), (3, .ref o), (2, .ref (qm 0)), (1, .ref b0), (0, .ref b)]) hx hb dL_law_893 hl (by decide) rfl (fun ls hl => ?_)
  refine lv_aload_n hx hb dL_law_895 rfl (lv_at hl 3 rfl) ?_
  refine lv_aload_n hx hb dL_law_896 rfl (lv_at hl 5 rfl) ?_
  refine lv_iload hx hb dL_law_897 (lv_at hl 1 rfl) ?_
  refine lv_iconst (v := 1) hx hb dL_law_899 (by decide) ?_
  refine lv_iadd hx hb dL_law_900 ?_
  refine va_sld hx hb hX hbl hbA hS (lw_in hi 1 (by omega) hL) dL_law_901 ?_
  refine wr_Vi (As := [.int (xs (x4 + (1 : Int32)).toNatClampNeg)]) (rest := []) (w1 := wL o cJ uf b0 qh qs qr cI uh us ur) (w2 := []) (ws1 := wW o cJ uf b0 qh qs qr cI uh us ur qm gm') ⟨hx, hb, hml, hown, hts⟩ (c_X5_wasteByAll l dC dI cI qm gm (xs (x4 + (1 : Int32)).toNatClampNeg) b6 gm' hm6 _) (cwV 1 hts gL_law_X5_wasteByAll rfl rfl rfl (by decide +kernel) ⟨Nat.le_of_ble_eq_true rfl, Nat.le_of_ble_eq_true rfl⟩) hP hD hS hA (hK.sub [0] rfl) hN (wW_M o cJ uf b0 qh qs qr cI uh us ur qm gm) (wW_M o cJ uf b0 qh qs qr cI uh us ur qm gm').symm rfl rfl rfl rfl hl.1 (Nat.le_of_ble_eq_true rfl) ⟨by show _ ≤ 601024; omega, by show _ ≤ 7293034; omega⟩ dL_law_902 (fun H locs hP hD hS => ?_)
  refine lv_istore (lv' := [(6, .int b6), (5, .int k5), (4, .int x4), (3, .ref o), (2, .ref (qm 0)), (1, .ref b0), (0, .ref b)]) hx hb dL_law_905 hl (by decide) rfl (fun ls hl => ?_)
  refine lv_aload_n hx hb dL_law_907 rfl (lv_at hl 4 rfl) ?_
  refine ro_V (As := []) (rest := []) ⟨hx, hb, hml, hown, hts⟩ (c_X5_thrown l dC dI cI qm gm' (gm' 0 0) rfl) (cwV 0 hts gL_law_X5_thrown rfl rfl rfl (by decide +kernel) ⟨Nat.le_of_ble_eq_true rfl, Nat.le_of_ble_eq_true rfl⟩) (tWm hP) (hK.sub [0] rfl) hN rfl rfl rfl rfl hl.1 (Nat.le_of_ble_eq_true rfl) ⟨by show _ ≤ 601024; omega, by show _ ≤ 7293034; omega⟩ dL_law_908 ?_
  refine lv_iload hx hb dL_law_911 (lv_at hl 1 rfl) ?_
  refine lv_icmp_eq (tgt := 918) hx hb dL_law_913 (by decide) (fun ceq => ?_) (fun ceq => ?_)
  · refine lv_iload hx hb dL_law_918 (lv_at hl 1 rfl) ?_
    refine lv_if_ne (tgt := 935) hx hb dL_law_920 (by decide) (fun c5 => ?_) (fun c5 => ?_)
    · rcases hk5 with ⟨hk0, -⟩ | ⟨⟨-, -, hrel6⟩, hu⟩
      · exact absurd hk0 c5
      · cases hu
        refine lv_goto (tgt := 1750) hx hb dL_law_935 (by decide) ?_
        refine W.widen (k := k + 8) (n := n + 48) (by omega) (by omega) ?_
        exact kk _ _ _ gh gs gr gm' f hrel6 hP hD hS (lv_sub hl [2, 3, 4, 5, 6] rfl)
    · rcases hk5 with ⟨hk0, r6, hout, ht0, hr6, hrel6⟩ | ⟨⟨-, hne, -⟩, hu⟩
      · refine lv_aload_n hx hb dL_law_923 rfl (lv_at hl 3 rfl) ?_
        refine lv_iconst (v := 0) hx hb dL_law_924 (by decide) ?_
        refine va_lald hx hb hK hP 0 1 rfl rfl vp01 dL_law_925 ?_
        refine lv_iload hx hb dL_law_926 (lv_at hl 0 rfl) ?_
        refine lv_i2l hx hb dL_law_928 rfl ?_
        refine W.lcmp hx hb dL_law_929 ?_
        refine lv_if_eq (tgt := 935) hx hb dL_law_930 (by decide) (fun c6 => ?_) (fun c6 => ?_)
        · refine lv_goto (tgt := 1750) hx hb dL_law_935 (by decide) ?_
          refine W.widen (k := k + 8) (n := n + 48) (by omega) (by omega) ?_
          exact kk _ _ _ uh us ur gm' uf hrel6 hP hD hS (lv_sub hl [2, 3, 4, 5, 6] rfl)
        · exact absurd (by rw [show uf (0 : Int32).toNatClampNeg = r6.toInt64 from hout, hr6]; exact lw_cmp _) c6
      · exact absurd c5 hne
  · rcases hk5 with ⟨hk0, r6, hout, ht0, hr6, hrel6⟩ | ⟨⟨he6, -, -⟩, hu⟩
    · exact absurd (ht0.trans hk0.symm) ceq
    · exact absurd he6 ceq
def Sim_left (Rel : St → St → St → St → Prop) : Prop := ∀ (gh gs gr gm : St) (a1 : Int32), Rel gh gs gr gm → ∃ (b6 : Int32) (gm' : St), P_X5_left gm a1 b6 gm' ∧ P_X4_left gh gs gr a1 (fun (r : Int32) (gh' gs' gr' : St) => gm' 0 0 = 0 ∧ r = b6 ∧ Rel gh' gs' gr' gm') (fun E : String => (E = E_i ∧ (gm' 0 0 = 1 ∧ ¬ (1 : Int32) = 0 ∧ Rel gh gs gr gm')) ∨ (E = E_s ∧ (gm' 0 0 = 2 ∧ ¬ (2 : Int32) = 0 ∧ Rel gh gs gr gm')))
set_option maxRecDepth 100000 in
set_option maxHeartbeats 4000000 in
theorem law_c13 {p : Program} {l : Launch} {e : Env} {s : State} {m : MethodId} {below : List Frame} {meth : Method} {c : Code} {b L : Nat} {xs : Nat → Int32} {dC : Nat → ClassId} {dI : Nat → Nat → Nat} {cI cJ : ClassId} {o b0 : Nat} {qh qs qr qm : Nat → Nat} {Rel : St → St → St → St → Prop} {x4 : Int32} {k n : Nat} (hE : lw_Env p l s m c b L xs dC dI cI cJ) (hSim : Sim_left Rel) {j : Nat} (hi : x4 = nI j) (hj : j + 8 ≤ L) (hk : k + 8 ≤ 601024) (hn : n + 48 ≤ 7293034) (kk : law_at p l e s m below meth c b dC dI cI cJ o b0 qh qs qr qm Rel 1750 x4 (k + 8) (n + 48)) : law_at p l e s m below meth c b dC dI cI cJ o b0 qh qs qr qm Rel 938 x4 k n := by
  intro H locs ls gh gs gr gm f hrel hP hD hS hl
  obtain ⟨hx, hb, hml, hown, hts, hX, hbl, hK, hN, hXS, hXH, hfl, hL⟩ := id hE
  have hA : ∀ q : Nat, s.heap.size ≤ q → (fun q : Nat => s.heap.size ≤ q) q := fun _ h => h
  have hbA : ¬ (fun q : Nat => s.heap.size ≤ q) b := Nat.not_le.mpr hbl
  obtain ⟨b6, gm', hm6, hx6⟩ := hSim gh gs gr gm (xs (x4 + (1 : Int32)).toNatClampNeg) hrel
  refine lv_aload_n hx hb dL_law_938 rfl (lv_at hl 3 rfl) ?_
  refine lv_aload_n hx hb dL_law_939 rfl (lv_at hl 4 rfl) ?_
  refine lv_iload hx hb dL_law_940 (lv_at hl 0 rfl) ?_
  refine lv_iconst (v := 1) hx hb dL_law_942 (by decide) ?_
  refine lv_iadd hx hb dL_law_943 ?_
  refine va_sld hx hb hX hbl hbA hS (lw_in hi 1 (by omega) hL) dL_law_944 ?_
  refine lv_aload_n hx hb dL_law_945 rfl (lv_at hl 1 rfl) ?_
  refine tw_S (As := [.ref b0, .int (xs (x4 + (1 : Int32)).toNatClampNeg), .ref o]) (rest := []) (w1 := []) (w2 := wX5 qm cI gm) (wsd := fun u : St × St × St × (Nat → Int64) => wW o cJ u.2.2.2 b0 qh qs qr cI u.1 u.2.1 u.2.2.1 qm gm) ⟨hx, hb, hml, hown, hts⟩ (c_L_left l hfl dC dI cI cJ o f b0 qh qs qr gh gs gr (xs (x4 + (1 : Int32)).toNatClampNeg) (fun (r : Int32) (gh' gs' gr' : St) => gm' 0 0 = 0 ∧ r = b6 ∧ Rel gh' gs' gr' gm') (fun k : Int32 => gm' 0 0 = k ∧ ¬ k = 0 ∧ Rel gh gs gr gm') hx6 _) (vx_cwSW 3 hts gL_law_L_left rfl rfl rfl (by decide +kernel) ⟨Nat.le_of_ble_eq_true rfl, Nat.le_of_ble_eq_true rfl⟩) hP hD hS hA hK hN hXS hXH rfl (fun u => rfl) rfl rfl hl.1 (Nat.le_of_ble_eq_true rfl) ⟨by show _ ≤ 601024; omega, by show _ ≤ 7293034; omega⟩ dL_law_946 (fun k5 u H locs hk5 hP hD hS => ?_)
  obtain ⟨uh, us, ur, uf⟩ := u
  refine lv_istore (lv' := [(5, .int k5), (4, .int x4), (3, .ref o), (2, .ref (qm 0)), (1, .ref b0), (0, .ref b)]) hx hb dL_law_949 hl (by decide) rfl (fun ls hl => ?_)
  refine lv_aload_n hx hb dL_law_951 rfl (lv_at hl 3 rfl) ?_
  refine lv_aload_n hx hb dL_law_952 rfl (lv_at hl 5 rfl) ?_
  refine lv_iload hx hb dL_law_953 (lv_at hl 1 rfl) ?_
  refine lv_iconst (v := 1) hx hb dL_law_955 (by decide) ?_
  refine lv_iadd hx hb dL_law_956 ?_
  refine va_sld hx hb hX hbl hbA hS (lw_in hi 1 (by omega) hL) dL_law_957 ?_
  refine wr_Vi (As := [.int (xs (x4 + (1 : Int32)).toNatClampNeg)]) (rest := []) (w1 := wL o cJ uf b0 qh qs qr cI uh us ur) (w2 := []) (ws1 := wW o cJ uf b0 qh qs qr cI uh us ur qm gm') ⟨hx, hb, hml, hown, hts⟩ (c_X5_left l dC dI cI qm gm (xs (x4 + (1 : Int32)).toNatClampNeg) b6 gm' hm6 _) (cwV 1 hts gL_law_X5_left rfl rfl rfl (by decide +kernel) ⟨Nat.le_of_ble_eq_true rfl, Nat.le_of_ble_eq_true rfl⟩) hP hD hS hA (hK.sub [0] rfl) hN (wW_M o cJ uf b0 qh qs qr cI uh us ur qm gm) (wW_M o cJ uf b0 qh qs qr cI uh us ur qm gm').symm rfl rfl rfl rfl hl.1 (Nat.le_of_ble_eq_true rfl) ⟨by show _ ≤ 601024; omega, by show _ ≤ 7293034; omega⟩ dL_law_958 (fun H locs hP hD hS => ?_)
  refine lv_istore (lv' := [(6, .int b6), (5, .int k5), (4, .int x4), (3, .ref o), (2, .ref (qm 0)), (1, .ref b0), (0, .ref b)]) hx hb dL_law_961 hl (by decide) rfl (fun ls hl => ?_)
  refine lv_aload_n hx hb dL_law_963 rfl (lv_at hl 4 rfl) ?_
  refine ro_V (As := []) (rest := []) ⟨hx, hb, hml, hown, hts⟩ (c_X5_thrown l dC dI cI qm gm' (gm' 0 0) rfl) (cwV 0 hts gL_law_X5_thrown rfl rfl rfl (by decide +kernel) ⟨Nat.le_of_ble_eq_true rfl, Nat.le_of_ble_eq_true rfl⟩) (tWm hP) (hK.sub [0] rfl) hN rfl rfl rfl rfl hl.1 (Nat.le_of_ble_eq_true rfl) ⟨by show _ ≤ 601024; omega, by show _ ≤ 7293034; omega⟩ dL_law_964 ?_
  refine lv_iload hx hb dL_law_967 (lv_at hl 1 rfl) ?_
  refine lv_icmp_eq (tgt := 974) hx hb dL_law_969 (by decide) (fun ceq => ?_) (fun ceq => ?_)
  · refine lv_iload hx hb dL_law_974 (lv_at hl 1 rfl) ?_
    refine lv_if_ne (tgt := 991) hx hb dL_law_976 (by decide) (fun c5 => ?_) (fun c5 => ?_)
    · rcases hk5 with ⟨hk0, -⟩ | ⟨⟨-, -, hrel6⟩, hu⟩
      · exact absurd hk0 c5
      · cases hu
        refine lv_goto (tgt := 1750) hx hb dL_law_991 (by decide) ?_
        refine W.widen (k := k + 8) (n := n + 48) (by omega) (by omega) ?_
        exact kk _ _ _ gh gs gr gm' f hrel6 hP hD hS (lv_sub hl [2, 3, 4, 5, 6] rfl)
    · rcases hk5 with ⟨hk0, r6, hout, ht0, hr6, hrel6⟩ | ⟨⟨-, hne, -⟩, hu⟩
      · refine lv_aload_n hx hb dL_law_979 rfl (lv_at hl 3 rfl) ?_
        refine lv_iconst (v := 0) hx hb dL_law_980 (by decide) ?_
        refine va_lald hx hb hK hP 0 1 rfl rfl vp01 dL_law_981 ?_
        refine lv_iload hx hb dL_law_982 (lv_at hl 0 rfl) ?_
        refine lv_i2l hx hb dL_law_984 rfl ?_
        refine W.lcmp hx hb dL_law_985 ?_
        refine lv_if_eq (tgt := 991) hx hb dL_law_986 (by decide) (fun c6 => ?_) (fun c6 => ?_)
        · refine lv_goto (tgt := 1750) hx hb dL_law_991 (by decide) ?_
          refine W.widen (k := k + 8) (n := n + 48) (by omega) (by omega) ?_
          exact kk _ _ _ uh us ur gm' uf hrel6 hP hD hS (lv_sub hl [2, 3, 4, 5, 6] rfl)
        · exact absurd (by rw [show uf (0 : Int32).toNatClampNeg = r6.toInt64 from hout, hr6]; exact lw_cmp _) c6
      · exact absurd c5 hne
  · rcases hk5 with ⟨hk0, r6, hout, ht0, hr6, hrel6⟩ | ⟨⟨he6, -, -⟩, hu⟩
    · exact absurd (ht0.trans hk0.symm) ceq
    · exact absurd he6 ceq
def Sim_offers (Rel : St → St → St → St → Prop) : Prop := ∀ (gh gs gr gm : St) (a1 : Int32), Rel gh gs gr gm → ∃ (b6 : Int32) (gm' : St), P_X5_offers gm a1 b6 gm' ∧ P_X4_offers gh gs gr a1 (fun (r : Int32) (gh' gs' gr' : St) => gm' 0 0 = 0 ∧ r = b6 ∧ Rel gh' gs' gr' gm') (fun E : String => (E = E_i ∧ (gm' 0 0 = 1 ∧ ¬ (1 : Int32) = 0 ∧ Rel gh gs gr gm')))
set_option maxRecDepth 100000 in
set_option maxHeartbeats 4000000 in
theorem law_c14 {p : Program} {l : Launch} {e : Env} {s : State} {m : MethodId} {below : List Frame} {meth : Method} {c : Code} {b L : Nat} {xs : Nat → Int32} {dC : Nat → ClassId} {dI : Nat → Nat → Nat} {cI cJ : ClassId} {o b0 : Nat} {qh qs qr qm : Nat → Nat} {Rel : St → St → St → St → Prop} {x4 : Int32} {k n : Nat} (hE : lw_Env p l s m c b L xs dC dI cI cJ) (hSim : Sim_offers Rel) {j : Nat} (hi : x4 = nI j) (hj : j + 8 ≤ L) (hk : k + 8 ≤ 601024) (hn : n + 48 ≤ 7293034) (kk : law_at p l e s m below meth c b dC dI cI cJ o b0 qh qs qr qm Rel 1750 x4 (k + 8) (n + 48)) : law_at p l e s m below meth c b dC dI cI cJ o b0 qh qs qr qm Rel 994 x4 k n := by
  intro H locs ls gh gs gr gm f hrel hP hD hS hl
  obtain ⟨hx, hb, hml, hown, hts, hX, hbl, hK, hN, hXS, hXH, hfl, hL⟩ := id hE
  have hA : ∀ q : Nat, s.heap.size ≤ q → (fun q : Nat => s.heap.size ≤ q) q := fun _ h => h
  have hbA : ¬ (fun q : Nat => s.heap.size ≤ q) b := Nat.not_le.mpr hbl
  obtain ⟨b6, gm', hm6, hx6⟩ := hSim gh gs gr gm (xs (x4 + (1 : Int32)).toNatClampNeg) hrel
  refine lv_aload_n hx hb dL_law_994 rfl (lv_at hl 3 rfl) ?_
  refine lv_aload_n hx hb dL_law_995 rfl (lv_at hl 4 rfl) ?_
  refine lv_iload hx hb dL_law_996 (lv_at hl 0 rfl) ?_
  refine lv_iconst (v := 1) hx hb dL_law_998 (by decide) ?_
  refine lv_iadd hx hb dL_law_999 ?_
  refine va_sld hx hb hX hbl hbA hS (lw_in hi 1 (by omega) hL) dL_law_1000 ?_
  refine lv_aload_n hx hb dL_law_1001 rfl (lv_at hl 1 rfl) ?_
  refine tw_S (As := [.ref b0, .int (xs (x4 + (1 : Int32)).toNatClampNeg), .ref o]) (rest := []) (w1 := []) (w2 := wX5 qm cI gm) (wsd := fun u : St × St × St × (Nat → Int64) => wW o cJ u.2.2.2 b0 qh qs qr cI u.1 u.2.1 u.2.2.1 qm gm) ⟨hx, hb, hml, hown, hts⟩ (c_L_offers l hfl dC dI cI cJ o f b0 qh qs qr gh gs gr (xs (x4 + (1 : Int32)).toNatClampNeg) (fun (r : Int32) (gh' gs' gr' : St) => gm' 0 0 = 0 ∧ r = b6 ∧ Rel gh' gs' gr' gm') (fun k : Int32 => gm' 0 0 = k ∧ ¬ k = 0 ∧ Rel gh gs gr gm') hx6 _) (vx_cwSW 3 hts gL_law_L_offers rfl rfl rfl (by decide +kernel) ⟨Nat.le_of_ble_eq_true rfl, Nat.le_of_ble_eq_true rfl⟩) hP hD hS hA hK hN hXS hXH rfl (fun u => rfl) rfl rfl hl.1 (Nat.le_of_ble_eq_true rfl) ⟨by show _ ≤ 601024; omega, by show _ ≤ 7293034; omega⟩ dL_law_1002 (fun k5 u H locs hk5 hP hD hS => ?_)
  obtain ⟨uh, us, ur, uf⟩ := u
  refine lv_istore (lv' := [(5, .int k5), (4, .int x4), (3, .ref o), (2, .ref (qm 0)), (1, .ref b0), (0, .ref b)]) hx hb dL_law_1005 hl (by decide) rfl (fun ls hl => ?_)
  refine lv_aload_n hx hb dL_law_1007 rfl (lv_at hl 3 rfl) ?_
  refine lv_aload_n hx hb dL_law_1008 rfl (lv_at hl 5 rfl) ?_
  refine lv_iload hx hb dL_law_1009 (lv_at hl 1 rfl) ?_
  refine lv_iconst (v := 1) hx hb dL_law_1011 (by decide) ?_
  refine lv_iadd hx hb dL_law_1012 ?_
  refine va_sld hx hb hX hbl hbA hS (lw_in hi 1 (by omega) hL) dL_law_1013 ?_
  refine wr_Vi (As := [.int (xs (x4 + (1 : Int32)).toNatClampNeg)]) (rest := []) (w1 := wL o cJ uf b0 qh qs qr cI uh us ur) (w2 := []) (ws1 := wW o cJ uf b0 qh qs qr cI uh us ur qm gm') ⟨hx, hb, hml, hown, hts⟩ (c_X5_offers l dC dI cI qm gm (xs (x4 + (1 : Int32)).toNatClampNeg) b6 gm' hm6 _) (cwV 1 hts gL_law_X5_offers rfl rfl rfl (by decide +kernel) ⟨Nat.le_of_ble_eq_true rfl, Nat.le_of_ble_eq_true rfl⟩) hP hD hS hA (hK.sub [0] rfl) hN (wW_M o cJ uf b0 qh qs qr cI uh us ur qm gm) (wW_M o cJ uf b0 qh qs qr cI uh us ur qm gm').symm rfl rfl rfl rfl hl.1 (Nat.le_of_ble_eq_true rfl) ⟨by show _ ≤ 601024; omega, by show _ ≤ 7293034; omega⟩ dL_law_1014 (fun H locs hP hD hS => ?_)
  refine lv_istore (lv' := [(6, .int b6), (5, .int k5), (4, .int x4), (3, .ref o), (2, .ref (qm 0)), (1, .ref b0), (0, .ref b)]) hx hb dL_law_1017 hl (by decide) rfl (fun ls hl => ?_)
  refine lv_aload_n hx hb dL_law_1019 rfl (lv_at hl 4 rfl) ?_
  refine ro_V (As := []) (rest := []) ⟨hx, hb, hml, hown, hts⟩ (c_X5_thrown l dC dI cI qm gm' (gm' 0 0) rfl) (cwV 0 hts gL_law_X5_thrown rfl rfl rfl (by decide +kernel) ⟨Nat.le_of_ble_eq_true rfl, Nat.le_of_ble_eq_true rfl⟩) (tWm hP) (hK.sub [0] rfl) hN rfl rfl rfl rfl hl.1 (Nat.le_of_ble_eq_true rfl) ⟨by show _ ≤ 601024; omega, by show _ ≤ 7293034; omega⟩ dL_law_1020 ?_
  refine lv_iload hx hb dL_law_1023 (lv_at hl 1 rfl) ?_
  refine lv_icmp_eq (tgt := 1030) hx hb dL_law_1025 (by decide) (fun ceq => ?_) (fun ceq => ?_)
  · refine lv_iload hx hb dL_law_1030 (lv_at hl 1 rfl) ?_
    refine lv_if_ne (tgt := 1047) hx hb dL_law_1032 (by decide) (fun c5 => ?_) (fun c5 => ?_)
    · rcases hk5 with ⟨hk0, -⟩ | ⟨⟨-, -, hrel6⟩, hu⟩
      · exact absurd hk0 c5
      · cases hu
        refine lv_goto (tgt := 1750) hx hb dL_law_1047 (by decide) ?_
        refine W.widen (k := k + 8) (n := n + 48) (by omega) (by omega) ?_
        exact kk _ _ _ gh gs gr gm' f hrel6 hP hD hS (lv_sub hl [2, 3, 4, 5, 6] rfl)
    · rcases hk5 with ⟨hk0, r6, hout, ht0, hr6, hrel6⟩ | ⟨⟨-, hne, -⟩, hu⟩
      · refine lv_aload_n hx hb dL_law_1035 rfl (lv_at hl 3 rfl) ?_
        refine lv_iconst (v := 0) hx hb dL_law_1036 (by decide) ?_
        refine va_lald hx hb hK hP 0 1 rfl rfl vp01 dL_law_1037 ?_
        refine lv_iload hx hb dL_law_1038 (lv_at hl 0 rfl) ?_
        refine lv_i2l hx hb dL_law_1040 rfl ?_
        refine W.lcmp hx hb dL_law_1041 ?_
        refine lv_if_eq (tgt := 1047) hx hb dL_law_1042 (by decide) (fun c6 => ?_) (fun c6 => ?_)
        · refine lv_goto (tgt := 1750) hx hb dL_law_1047 (by decide) ?_
          refine W.widen (k := k + 8) (n := n + 48) (by omega) (by omega) ?_
          exact kk _ _ _ uh us ur gm' uf hrel6 hP hD hS (lv_sub hl [2, 3, 4, 5, 6] rfl)
        · exact absurd (by rw [show uf (0 : Int32).toNatClampNeg = r6.toInt64 from hout, hr6]; exact lw_cmp _) c6
      · exact absurd c5 hne
  · rcases hk5 with ⟨hk0, r6, hout, ht0, hr6, hrel6⟩ | ⟨⟨he6, -, -⟩, hu⟩
    · exact absurd (ht0.trans hk0.symm) ceq
    · exact absurd he6 ceq
def Sim_offerAt (Rel : St → St → St → St → Prop) : Prop := ∀ (gh gs gr gm : St) (a1 : Int32) (a2 : Int32), Rel gh gs gr gm → ∃ (b6 : Int32) (gm' : St), P_X5_offerAt gm a1 a2 b6 gm' ∧ P_X4_offerAt gh gs gr a1 a2 (fun (r : Int32) (gh' gs' gr' : St) => gm' 0 0 = 0 ∧ r = b6 ∧ Rel gh' gs' gr' gm') (fun E : String => (E = E_i ∧ (gm' 0 0 = 1 ∧ ¬ (1 : Int32) = 0 ∧ Rel gh gs gr gm')))
set_option maxRecDepth 100000 in
set_option maxHeartbeats 4000000 in
theorem law_c15 {p : Program} {l : Launch} {e : Env} {s : State} {m : MethodId} {below : List Frame} {meth : Method} {c : Code} {b L : Nat} {xs : Nat → Int32} {dC : Nat → ClassId} {dI : Nat → Nat → Nat} {cI cJ : ClassId} {o b0 : Nat} {qh qs qr qm : Nat → Nat} {Rel : St → St → St → St → Prop} {x4 : Int32} {k n : Nat} (hE : lw_Env p l s m c b L xs dC dI cI cJ) (hSim : Sim_offerAt Rel) {j : Nat} (hi : x4 = nI j) (hj : j + 8 ≤ L) (hk : k + 8 ≤ 601024) (hn : n + 48 ≤ 7293034) (kk : law_at p l e s m below meth c b dC dI cI cJ o b0 qh qs qr qm Rel 1750 x4 (k + 8) (n + 48)) : law_at p l e s m below meth c b dC dI cI cJ o b0 qh qs qr qm Rel 1050 x4 k n := by
  intro H locs ls gh gs gr gm f hrel hP hD hS hl
  obtain ⟨hx, hb, hml, hown, hts, hX, hbl, hK, hN, hXS, hXH, hfl, hL⟩ := id hE
  have hA : ∀ q : Nat, s.heap.size ≤ q → (fun q : Nat => s.heap.size ≤ q) q := fun _ h => h
  have hbA : ¬ (fun q : Nat => s.heap.size ≤ q) b := Nat.not_le.mpr hbl
  obtain ⟨b6, gm', hm6, hx6⟩ := hSim gh gs gr gm (xs (x4 + (1 : Int32)).toNatClampNeg) (xs (x4 + (2 : Int32)).toNatClampNeg) hrel
  refine lv_aload_n hx hb dL_law_1050 rfl (lv_at hl 3 rfl) ?_
  refine lv_aload_n hx hb dL_law_1051 rfl (lv_at hl 4 rfl) ?_
  refine lv_iload hx hb dL_law_1052 (lv_at hl 0 rfl) ?_
  refine lv_iconst (v := 1) hx hb dL_law_1054 (by decide) ?_
  refine lv_iadd hx hb dL_law_1055 ?_
  refine va_sld hx hb hX hbl hbA hS (lw_in hi 1 (by omega) hL) dL_law_1056 ?_
  refine lv_aload_n hx hb dL_law_1057 rfl (lv_at hl 4 rfl) ?_
  refine lv_iload hx hb dL_law_1058 (lv_at hl 0 rfl) ?_
  refine lv_iconst (v := 2) hx hb dL_law_1060 (by decide) ?_
  refine lv_iadd hx hb dL_law_1061 ?_
  refine va_sld hx hb hX hbl hbA hS (lw_in hi 2 (by omega) hL) dL_law_1062 ?_
  refine lv_aload_n hx hb dL_law_1063 rfl (lv_at hl 1 rfl) ?_
  refine tw_S (As := [.ref b0, .int (xs (x4 + (1 : Int32)).toNatClampNeg), .int (xs (x4 + (2 : Int32)).toNatClampNeg), .ref o]) (rest := []) (w1 := []) (w2 := wX5 qm cI gm) (wsd := fun u : St × St × St × (Nat → Int64) => wW o cJ u.2.2.2 b0 qh qs qr cI u.1 u.2.1 u.2.2.1 qm gm) ⟨hx, hb, hml, hown, hts⟩ (c_L_offerAt l hfl dC dI cI cJ o f b0 qh qs qr gh gs gr (xs (x4 + (1 : Int32)).toNatClampNeg) (xs (x4 + (2 : Int32)).toNatClampNeg) (fun (r : Int32) (gh' gs' gr' : St) => gm' 0 0 = 0 ∧ r = b6 ∧ Rel gh' gs' gr' gm') (fun k : Int32 => gm' 0 0 = k ∧ ¬ k = 0 ∧ Rel gh gs gr gm') hx6 _) (vx_cwSW 4 hts gL_law_L_offerAt rfl rfl rfl (by decide +kernel) ⟨Nat.le_of_ble_eq_true rfl, Nat.le_of_ble_eq_true rfl⟩) hP hD hS hA hK hN hXS hXH rfl (fun u => rfl) rfl rfl hl.1 (Nat.le_of_ble_eq_true rfl) ⟨by show _ ≤ 601024; omega, by show _ ≤ 7293034; omega⟩ dL_law_1064 (fun k5 u H locs hk5 hP hD hS => ?_)
  obtain ⟨uh, us, ur, uf⟩ := u
  refine lv_istore (lv' := [(5, .int k5), (4, .int x4), (3, .ref o), (2, .ref (qm 0)), (1, .ref b0), (0, .ref b)]) hx hb dL_law_1067 hl (by decide) rfl (fun ls hl => ?_)
  refine lv_aload_n hx hb dL_law_1069 rfl (lv_at hl 3 rfl) ?_
  refine lv_aload_n hx hb dL_law_1070 rfl (lv_at hl 5 rfl) ?_
  refine lv_iload hx hb dL_law_1071 (lv_at hl 1 rfl) ?_
  refine lv_iconst (v := 1) hx hb dL_law_1073 (by decide) ?_
  refine lv_iadd hx hb dL_law_1074 ?_
  refine va_sld hx hb hX hbl hbA hS (lw_in hi 1 (by omega) hL) dL_law_1075 ?_
  refine lv_aload_n hx hb dL_law_1076 rfl (lv_at hl 5 rfl) ?_
  refine lv_iload hx hb dL_law_1077 (lv_at hl 1 rfl) ?_
  refine lv_iconst (v := 2) hx hb dL_law_1079 (by decide) ?_
  refine lv_iadd hx hb dL_law_1080 ?_
  refine va_sld hx hb hX hbl hbA hS (lw_in hi 2 (by omega) hL) dL_law_1081 ?_
  refine wr_Vi (As := [.int (xs (x4 + (1 : Int32)).toNatClampNeg), .int (xs (x4 + (2 : Int32)).toNatClampNeg)]) (rest := []) (w1 := wL o cJ uf b0 qh qs qr cI uh us ur) (w2 := []) (ws1 := wW o cJ uf b0 qh qs qr cI uh us ur qm gm') ⟨hx, hb, hml, hown, hts⟩ (c_X5_offerAt l dC dI cI qm gm (xs (x4 + (1 : Int32)).toNatClampNeg) (xs (x4 + (2 : Int32)).toNatClampNeg) b6 gm' hm6 _) (cwV 2 hts gL_law_X5_offerAt rfl rfl rfl (by decide +kernel) ⟨Nat.le_of_ble_eq_true rfl, Nat.le_of_ble_eq_true rfl⟩) hP hD hS hA (hK.sub [0] rfl) hN (wW_M o cJ uf b0 qh qs qr cI uh us ur qm gm) (wW_M o cJ uf b0 qh qs qr cI uh us ur qm gm').symm rfl rfl rfl rfl hl.1 (Nat.le_of_ble_eq_true rfl) ⟨by show _ ≤ 601024; omega, by show _ ≤ 7293034; omega⟩ dL_law_1082 (fun H locs hP hD hS => ?_)
  refine lv_istore (lv' := [(6, .int b6), (5, .int k5), (4, .int x4), (3, .ref o), (2, .ref (qm 0)), (1, .ref b0), (0, .ref b)]) hx hb dL_law_1085 hl (by decide) rfl (fun ls hl => ?_)
  refine lv_aload_n hx hb dL_law_1087 rfl (lv_at hl 4 rfl) ?_
  refine ro_V (As := []) (rest := []) ⟨hx, hb, hml, hown, hts⟩ (c_X5_thrown l dC dI cI qm gm' (gm' 0 0) rfl) (cwV 0 hts gL_law_X5_thrown rfl rfl rfl (by decide +kernel) ⟨Nat.le_of_ble_eq_true rfl, Nat.le_of_ble_eq_true rfl⟩) (tWm hP) (hK.sub [0] rfl) hN rfl rfl rfl rfl hl.1 (Nat.le_of_ble_eq_true rfl) ⟨by show _ ≤ 601024; omega, by show _ ≤ 7293034; omega⟩ dL_law_1088 ?_
  refine lv_iload hx hb dL_law_1091 (lv_at hl 1 rfl) ?_
  refine lv_icmp_eq (tgt := 1098) hx hb dL_law_1093 (by decide) (fun ceq => ?_) (fun ceq => ?_)
  · refine lv_iload hx hb dL_law_1098 (lv_at hl 1 rfl) ?_
    refine lv_if_ne (tgt := 1115) hx hb dL_law_1100 (by decide) (fun c5 => ?_) (fun c5 => ?_)
    · rcases hk5 with ⟨hk0, -⟩ | ⟨⟨-, -, hrel6⟩, hu⟩
      · exact absurd hk0 c5
      · cases hu
        refine lv_goto (tgt := 1750) hx hb dL_law_1115 (by decide) ?_
        refine W.widen (k := k + 8) (n := n + 48) (by omega) (by omega) ?_
        exact kk _ _ _ gh gs gr gm' f hrel6 hP hD hS (lv_sub hl [2, 3, 4, 5, 6] rfl)
    · rcases hk5 with ⟨hk0, r6, hout, ht0, hr6, hrel6⟩ | ⟨⟨-, hne, -⟩, hu⟩
      · refine lv_aload_n hx hb dL_law_1103 rfl (lv_at hl 3 rfl) ?_
        refine lv_iconst (v := 0) hx hb dL_law_1104 (by decide) ?_
        refine va_lald hx hb hK hP 0 1 rfl rfl vp01 dL_law_1105 ?_
        refine lv_iload hx hb dL_law_1106 (lv_at hl 0 rfl) ?_
        refine lv_i2l hx hb dL_law_1108 rfl ?_
        refine W.lcmp hx hb dL_law_1109 ?_
        refine lv_if_eq (tgt := 1115) hx hb dL_law_1110 (by decide) (fun c6 => ?_) (fun c6 => ?_)
        · refine lv_goto (tgt := 1750) hx hb dL_law_1115 (by decide) ?_
          refine W.widen (k := k + 8) (n := n + 48) (by omega) (by omega) ?_
          exact kk _ _ _ uh us ur gm' uf hrel6 hP hD hS (lv_sub hl [2, 3, 4, 5, 6] rfl)
        · exact absurd (by rw [show uf (0 : Int32).toNatClampNeg = r6.toInt64 from hout, hr6]; exact lw_cmp _) c6
      · exact absurd c5 hne
  · rcases hk5 with ⟨hk0, r6, hout, ht0, hr6, hrel6⟩ | ⟨⟨he6, -, -⟩, hu⟩
    · exact absurd (ht0.trans hk0.symm) ceq
    · exact absurd he6 ceq
def Sim_serve (Rel : St → St → St → St → Prop) : Prop := ∀ (gh gs gr gm : St) (a1 : Int32) (a2 : Int32), Rel gh gs gr gm → ∃ (b6 : Int32) (gm' : St), P_X5_serve gm a1 a2 b6 gm' ∧ P_X4_serve gh gs gr a1 a2 (fun (r : Int32) (gh' gs' gr' : St) => gm' 0 0 = 0 ∧ r = b6 ∧ Rel gh' gs' gr' gm') (fun E : String => (E = E_i ∧ (gm' 0 0 = 1 ∧ ¬ (1 : Int32) = 0 ∧ Rel gh gs gr gm')) ∨ (E = E_s ∧ (gm' 0 0 = 2 ∧ ¬ (2 : Int32) = 0 ∧ Rel gh gs gr gm')))
set_option maxRecDepth 100000 in
set_option maxHeartbeats 4000000 in
theorem law_c16 {p : Program} {l : Launch} {e : Env} {s : State} {m : MethodId} {below : List Frame} {meth : Method} {c : Code} {b L : Nat} {xs : Nat → Int32} {dC : Nat → ClassId} {dI : Nat → Nat → Nat} {cI cJ : ClassId} {o b0 : Nat} {qh qs qr qm : Nat → Nat} {Rel : St → St → St → St → Prop} {x4 : Int32} {k n : Nat} (hE : lw_Env p l s m c b L xs dC dI cI cJ) (hSim : Sim_serve Rel) {j : Nat} (hi : x4 = nI j) (hj : j + 8 ≤ L) (hk : k + 8 ≤ 601024) (hn : n + 48 ≤ 7293034) (kk : law_at p l e s m below meth c b dC dI cI cJ o b0 qh qs qr qm Rel 1750 x4 (k + 8) (n + 48)) : law_at p l e s m below meth c b dC dI cI cJ o b0 qh qs qr qm Rel 1118 x4 k n := by
  intro H locs ls gh gs gr gm f hrel hP hD hS hl
  obtain ⟨hx, hb, hml, hown, hts, hX, hbl, hK, hN, hXS, hXH, hfl, hL⟩ := id hE
  have hA : ∀ q : Nat, s.heap.size ≤ q → (fun q : Nat => s.heap.size ≤ q) q := fun _ h => h
  have hbA : ¬ (fun q : Nat => s.heap.size ≤ q) b := Nat.not_le.mpr hbl
  obtain ⟨b6, gm', hm6, hx6⟩ := hSim gh gs gr gm (xs (x4 + (1 : Int32)).toNatClampNeg) (xs (x4 + (2 : Int32)).toNatClampNeg) hrel
  refine lv_aload_n hx hb dL_law_1118 rfl (lv_at hl 3 rfl) ?_
  refine lv_aload_n hx hb dL_law_1119 rfl (lv_at hl 4 rfl) ?_
  refine lv_iload hx hb dL_law_1120 (lv_at hl 0 rfl) ?_
  refine lv_iconst (v := 1) hx hb dL_law_1122 (by decide) ?_
  refine lv_iadd hx hb dL_law_1123 ?_
  refine va_sld hx hb hX hbl hbA hS (lw_in hi 1 (by omega) hL) dL_law_1124 ?_
  refine lv_aload_n hx hb dL_law_1125 rfl (lv_at hl 4 rfl) ?_
  refine lv_iload hx hb dL_law_1126 (lv_at hl 0 rfl) ?_
  refine lv_iconst (v := 2) hx hb dL_law_1128 (by decide) ?_
  refine lv_iadd hx hb dL_law_1129 ?_
  refine va_sld hx hb hX hbl hbA hS (lw_in hi 2 (by omega) hL) dL_law_1130 ?_
  refine lv_aload_n hx hb dL_law_1131 rfl (lv_at hl 1 rfl) ?_
  refine tw_S (As := [.ref b0, .int (xs (x4 + (1 : Int32)).toNatClampNeg), .int (xs (x4 + (2 : Int32)).toNatClampNeg), .ref o]) (rest := []) (w1 := []) (w2 := wX5 qm cI gm) (wsd := fun u : St × St × St × (Nat → Int64) => wW o cJ u.2.2.2 b0 qh qs qr cI u.1 u.2.1 u.2.2.1 qm gm) ⟨hx, hb, hml, hown, hts⟩ (c_L_serve l hfl dC dI cI cJ o f b0 qh qs qr gh gs gr (xs (x4 + (1 : Int32)).toNatClampNeg) (xs (x4 + (2 : Int32)).toNatClampNeg) (fun (r : Int32) (gh' gs' gr' : St) => gm' 0 0 = 0 ∧ r = b6 ∧ Rel gh' gs' gr' gm') (fun k : Int32 => gm' 0 0 = k ∧ ¬ k = 0 ∧ Rel gh gs gr gm') hx6 _) (vx_cwSW 4 hts gL_law_L_serve rfl rfl rfl (by decide +kernel) ⟨Nat.le_of_ble_eq_true rfl, Nat.le_of_ble_eq_true rfl⟩) hP hD hS hA hK hN hXS hXH rfl (fun u => rfl) rfl rfl hl.1 (Nat.le_of_ble_eq_true rfl) ⟨by show _ ≤ 601024; omega, by show _ ≤ 7293034; omega⟩ dL_law_1132 (fun k5 u H locs hk5 hP hD hS => ?_)
  obtain ⟨uh, us, ur, uf⟩ := u
  refine lv_istore (lv' := [(5, .int k5), (4, .int x4), (3, .ref o), (2, .ref (qm 0)), (1, .ref b0), (0, .ref b)]) hx hb dL_law_1135 hl (by decide) rfl (fun ls hl => ?_)
  refine lv_aload_n hx hb dL_law_1137 rfl (lv_at hl 3 rfl) ?_
  refine lv_aload_n hx hb dL_law_1138 rfl (lv_at hl 5 rfl) ?_
  refine lv_iload hx hb dL_law_1139 (lv_at hl 1 rfl) ?_
  refine lv_iconst (v := 1) hx hb dL_law_1141 (by decide) ?_
  refine lv_iadd hx hb dL_law_1142 ?_
  refine va_sld hx hb hX hbl hbA hS (lw_in hi 1 (by omega) hL) dL_law_1143 ?_
  refine lv_aload_n hx hb dL_law_1144 rfl (lv_at hl 5 rfl) ?_
  refine lv_iload hx hb dL_law_1145 (lv_at hl 1 rfl) ?_
  refine lv_iconst (v := 2) hx hb dL_law_1147 (by decide) ?_
  refine lv_iadd hx hb dL_law_1148 ?_
  refine va_sld hx hb hX hbl hbA hS (lw_in hi 2 (by omega) hL) dL_law_1149 ?_
  refine wr_Vi (As := [.int (xs (x4 + (1 : Int32)).toNatClampNeg), .int (xs (x4 + (2 : Int32)).toNatClampNeg)]) (rest := []) (w1 := wL o cJ uf b0 qh qs qr cI uh us ur) (w2 := []) (ws1 := wW o cJ uf b0 qh qs qr cI uh us ur qm gm') ⟨hx, hb, hml, hown, hts⟩ (c_X5_serve l dC dI cI qm gm (xs (x4 + (1 : Int32)).toNatClampNeg) (xs (x4 + (2 : Int32)).toNatClampNeg) b6 gm' hm6 _) (cwV 2 hts gL_law_X5_serve rfl rfl rfl (by decide +kernel) ⟨Nat.le_of_ble_eq_true rfl, Nat.le_of_ble_eq_true rfl⟩) hP hD hS hA (hK.sub [0] rfl) hN (wW_M o cJ uf b0 qh qs qr cI uh us ur qm gm) (wW_M o cJ uf b0 qh qs qr cI uh us ur qm gm').symm rfl rfl rfl rfl hl.1 (Nat.le_of_ble_eq_true rfl) ⟨by show _ ≤ 601024; omega, by show _ ≤ 7293034; omega⟩ dL_law_1150 (fun H locs hP hD hS => ?_)
  refine lv_istore (lv' := [(6, .int b6), (5, .int k5), (4, .int x4), (3, .ref o), (2, .ref (qm 0)), (1, .ref b0), (0, .ref b)]) hx hb dL_law_1153 hl (by decide) rfl (fun ls hl => ?_)
  refine lv_aload_n hx hb dL_law_1155 rfl (lv_at hl 4 rfl) ?_
  refine ro_V (As := []) (rest := []) ⟨hx, hb, hml, hown, hts⟩ (c_X5_thrown l dC dI cI qm gm' (gm' 0 0) rfl) (cwV 0 hts gL_law_X5_thrown rfl rfl rfl (by decide +kernel) ⟨Nat.le_of_ble_eq_true rfl, Nat.le_of_ble_eq_true rfl⟩) (tWm hP) (hK.sub [0] rfl) hN rfl rfl rfl rfl hl.1 (Nat.le_of_ble_eq_true rfl) ⟨by show _ ≤ 601024; omega, by show _ ≤ 7293034; omega⟩ dL_law_1156 ?_
  refine lv_iload hx hb dL_law_1159 (lv_at hl 1 rfl) ?_
  refine lv_icmp_eq (tgt := 1166) hx hb dL_law_1161 (by decide) (fun ceq => ?_) (fun ceq => ?_)
  · refine lv_iload hx hb dL_law_1166 (lv_at hl 1 rfl) ?_
    refine lv_if_ne (tgt := 1183) hx hb dL_law_1168 (by decide) (fun c5 => ?_) (fun c5 => ?_)
    · rcases hk5 with ⟨hk0, -⟩ | ⟨⟨-, -, hrel6⟩, hu⟩
      · exact absurd hk0 c5
      · cases hu
        refine lv_goto (tgt := 1750) hx hb dL_law_1183 (by decide) ?_
        refine W.widen (k := k + 8) (n := n + 48) (by omega) (by omega) ?_
        exact kk _ _ _ gh gs gr gm' f hrel6 hP hD hS (lv_sub hl [2, 3, 4, 5, 6] rfl)
    · rcases hk5 with ⟨hk0, r6, hout, ht0, hr6, hrel6⟩ | ⟨⟨-, hne, -⟩, hu⟩
      · refine lv_aload_n hx hb dL_law_1171 rfl (lv_at hl 3 rfl) ?_
        refine lv_iconst (v := 0) hx hb dL_law_1172 (by decide) ?_
        refine va_lald hx hb hK hP 0 1 rfl rfl vp01 dL_law_1173 ?_
        refine lv_iload hx hb dL_law_1174 (lv_at hl 0 rfl) ?_
        refine lv_i2l hx hb dL_law_1176 rfl ?_
        refine W.lcmp hx hb dL_law_1177 ?_
        refine lv_if_eq (tgt := 1183) hx hb dL_law_1178 (by decide) (fun c6 => ?_) (fun c6 => ?_)
        · refine lv_goto (tgt := 1750) hx hb dL_law_1183 (by decide) ?_
          refine W.widen (k := k + 8) (n := n + 48) (by omega) (by omega) ?_
          exact kk _ _ _ uh us ur gm' uf hrel6 hP hD hS (lv_sub hl [2, 3, 4, 5, 6] rfl)
        · exact absurd (by rw [show uf (0 : Int32).toNatClampNeg = r6.toInt64 from hout, hr6]; exact lw_cmp _) c6
      · exact absurd c5 hne
  · rcases hk5 with ⟨hk0, r6, hout, ht0, hr6, hrel6⟩ | ⟨⟨he6, -, -⟩, hu⟩
    · exact absurd (ht0.trans hk0.symm) ceq
    · exact absurd he6 ceq
def Sim_giveBack (Rel : St → St → St → St → Prop) : Prop := ∀ (gh gs gr gm : St) (a1 : Int32) (a2 : Int32) (a3 : Int32), Rel gh gs gr gm → ∃ (b6 : Int32) (gm' : St), P_X5_giveBack gm a1 a2 a3 b6 gm' ∧ P_X4_giveBack gh gs gr a1 a2 a3 (fun (r : Int32) (gh' gs' gr' : St) => gm' 0 0 = 0 ∧ r = b6 ∧ Rel gh' gs' gr' gm') (fun E : String => (E = E_i ∧ (gm' 0 0 = 1 ∧ ¬ (1 : Int32) = 0 ∧ Rel gh gs gr gm')) ∨ (E = E_a ∧ (gm' 0 0 = 2 ∧ ¬ (2 : Int32) = 0 ∧ Rel gh gs gr gm')) ∨ (E = E_s ∧ (gm' 0 0 = 3 ∧ ¬ (3 : Int32) = 0 ∧ Rel gh gs gr gm')))
set_option maxRecDepth 100000 in
set_option maxHeartbeats 4000000 in
theorem law_c17 {p : Program} {l : Launch} {e : Env} {s : State} {m : MethodId} {below : List Frame} {meth : Method} {c : Code} {b L : Nat} {xs : Nat → Int32} {dC : Nat → ClassId} {dI : Nat → Nat → Nat} {cI cJ : ClassId} {o b0 : Nat} {qh qs qr qm : Nat → Nat} {Rel : St → St → St → St → Prop} {x4 : Int32} {k n : Nat} (hE : lw_Env p l s m c b L xs dC dI cI cJ) (hSim : Sim_giveBack Rel) {j : Nat} (hi : x4 = nI j) (hj : j + 8 ≤ L) (hk : k + 8 ≤ 601024) (hn : n + 48 ≤ 7293034) (kk : law_at p l e s m below meth c b dC dI cI cJ o b0 qh qs qr qm Rel 1750 x4 (k + 8) (n + 48)) : law_at p l e s m below meth c b dC dI cI cJ o b0 qh qs qr qm Rel 1186 x4 k n := by
  intro H locs ls gh gs gr gm f hrel hP hD hS hl
  obtain ⟨hx, hb, hml, hown, hts, hX, hbl, hK, hN, hXS, hXH, hfl, hL⟩ := id hE
  have hA : ∀ q : Nat, s.heap.size ≤ q → (fun q : Nat => s.heap.size ≤ q) q := fun _ h => h
  have hbA : ¬ (fun q : Nat => s.heap.size ≤ q) b := Nat.not_le.mpr hbl
  obtain ⟨b6, gm', hm6, hx6⟩ := hSim gh gs gr gm (xs (x4 + (1 : Int32)).toNatClampNeg) (xs (x4 + (2 : Int32)).toNatClampNeg) (xs (x4 + (3 : Int32)).toNatClampNeg) hrel
  refine lv_aload_n hx hb dL_law_1186 rfl (lv_at hl 3 rfl) ?_
  refine lv_aload_n hx hb dL_law_1187 rfl (lv_at hl 4 rfl) ?_
  refine lv_iload hx hb dL_law_1188 (lv_at hl 0 rfl) ?_
  refine lv_iconst (v := 1) hx hb dL_law_1190 (by decide) ?_
  refine lv_iadd hx hb dL_law_1191 ?_
  refine va_sld hx hb hX hbl hbA hS (lw_in hi 1 (by omega) hL) dL_law_1192 ?_
  refine lv_aload_n hx hb dL_law_1193 rfl (lv_at hl 4 rfl) ?_
  refine lv_iload hx hb dL_law_1194 (lv_at hl 0 rfl) ?_
  refine lv_iconst (v := 2) hx hb dL_law_1196 (by decide) ?_
  refine lv_iadd hx hb dL_law_1197 ?_
  refine va_sld hx hb hX hbl hbA hS (lw_in hi 2 (by omega) hL) dL_law_1198 ?_
  refine lv_aload_n hx hb dL_law_1199 rfl (lv_at hl 4 rfl) ?_
  refine lv_iload hx hb dL_law_1200 (lv_at hl 0 rfl) ?_
  refine lv_iconst (v := 3) hx hb dL_law_1202 (by decide) ?_
  refine lv_iadd hx hb dL_law_1203 ?_
  refine va_sld hx hb hX hbl hbA hS (lw_in hi 3 (by omega) hL) dL_law_1204 ?_
  refine lv_aload_n hx hb dL_law_1205 rfl (lv_at hl 1 rfl) ?_
  refine tw_S (As := [.ref b0, .int (xs (x4 + (1 : Int32)).toNatClampNeg), .int (xs (x4 + (2 : Int32)).toNatClampNeg), .int (xs (x4 + (3 : Int32)).toNatClampNeg), .ref o]) (rest := []) (w1 := []) (w2 := wX5 qm cI gm) (wsd := fun u : St × St × St × (Nat → Int64) => wW o cJ u.2.2.2 b0 qh qs qr cI u.1 u.2.1 u.2.2.1 qm gm) ⟨hx, hb, hml, hown, hts⟩ (c_L_giveBack l hfl dC dI cI cJ o f b0 qh qs qr gh gs gr (xs (x4 + (1 : Int32)).toNatClampNeg) (xs (x4 + (2 : Int32)).toNatClampNeg) (xs (x4 + (3 : Int32)).toNatClampNeg) (fun (r : Int32) (gh' gs' gr' : St) => gm' 0 0 = 0 ∧ r = b6 ∧ Rel gh' gs' gr' gm') (fun k : Int32 => gm' 0 0 = k ∧ ¬ k = 0 ∧ Rel gh gs gr gm') hx6 _) (vx_cwSW 5 hts gL_law_L_giveBack rfl rfl rfl (by decide +kernel) ⟨Nat.le_of_ble_eq_true rfl, Nat.le_of_ble_eq_true rfl⟩) hP hD hS hA hK hN hXS hXH rfl (fun u => rfl) rfl rfl hl.1 (Nat.le_of_ble_eq_true rfl) ⟨by show _ ≤ 601024; omega, by show _ ≤ 7293034; omega⟩ dL_law_1206 (fun k5 u H locs hk5 hP hD hS => ?_)
  obtain ⟨uh, us, ur, uf⟩ := u
  refine lv_istore (lv' := [(5, .int k5), (4, .int x4), (3, .ref o), (2, .ref (qm 0)), (1, .ref b0), (0, .ref b)]) hx hb dL_law_1209 hl (by decide) rfl (fun ls hl => ?_)
  refine lv_aload_n hx hb dL_law_1211 rfl (lv_at hl 3 rfl) ?_
  refine lv_aload_n hx hb dL_law_1212 rfl (lv_at hl 5 rfl) ?_
  refine lv_iload hx hb dL_law_1213 (lv_at hl 1 rfl) ?_
  refine lv_iconst (v := 1) hx hb dL_law_1215 (by decide) ?_
  refine lv_iadd hx hb dL_law_1216 ?_
  refine va_sld hx hb hX hbl hbA hS (lw_in hi 1 (by omega) hL) dL_law_1217 ?_
  refine lv_aload_n hx hb dL_law_1218 rfl (lv_at hl 5 rfl) ?_
  refine lv_iload hx hb dL_law_1219 (lv_at hl 1 rfl) ?_
  refine lv_iconst (v := 2) hx hb dL_law_1221 (by decide) ?_
  refine lv_iadd hx hb dL_law_1222 ?_
  refine va_sld hx hb hX hbl hbA hS (lw_in hi 2 (by omega) hL) dL_law_1223 ?_
  refine lv_aload_n hx hb dL_law_1224 rfl (lv_at hl 5 rfl) ?_
  refine lv_iload hx hb dL_law_1225 (lv_at hl 1 rfl) ?_
  refine lv_iconst (v := 3) hx hb dL_law_1227 (by decide) ?_
  refine lv_iadd hx hb dL_law_1228 ?_
  refine va_sld hx hb hX hbl hbA hS (lw_in hi 3 (by omega) hL) dL_law_1229 ?_
  refine wr_Vi (As := [.int (xs (x4 + (1 : Int32)).toNatClampNeg), .int (xs (x4 + (2 : Int32)).toNatClampNeg), .int (xs (x4 + (3 : Int32)).toNatClampNeg)]) (rest := []) (w1 := wL o cJ uf b0 qh qs qr cI uh us ur) (w2 := []) (ws1 := wW o cJ uf b0 qh qs qr cI uh us ur qm gm') ⟨hx, hb, hml, hown, hts⟩ (c_X5_giveBack l dC dI cI qm gm (xs (x4 + (1 : Int32)).toNatClampNeg) (xs (x4 + (2 : Int32)).toNatClampNeg) (xs (x4 + (3 : Int32)).toNatClampNeg) b6 gm' hm6 _) (cwV 3 hts gL_law_X5_giveBack rfl rfl rfl (by decide +kernel) ⟨Nat.le_of_ble_eq_true rfl, Nat.le_of_ble_eq_true rfl⟩) hP hD hS hA (hK.sub [0] rfl) hN (wW_M o cJ uf b0 qh qs qr cI uh us ur qm gm) (wW_M o cJ uf b0 qh qs qr cI uh us ur qm gm').symm rfl rfl rfl rfl hl.1 (Nat.le_of_ble_eq_true rfl) ⟨by show _ ≤ 601024; omega, by show _ ≤ 7293034; omega⟩ dL_law_1230 (fun H locs hP hD hS => ?_)
  refine lv_istore (lv' := [(6, .int b6), (5, .int k5), (4, .int x4), (3, .ref o), (2, .ref (qm 0)), (1, .ref b0), (0, .ref b)]) hx hb dL_law_1233 hl (by decide) rfl (fun ls hl => ?_)
  refine lv_aload_n hx hb dL_law_1235 rfl (lv_at hl 4 rfl) ?_
  refine ro_V (As := []) (rest := []) ⟨hx, hb, hml, hown, hts⟩ (c_X5_thrown l dC dI cI qm gm' (gm' 0 0) rfl) (cwV 0 hts gL_law_X5_thrown rfl rfl rfl (by decide +kernel) ⟨Nat.le_of_ble_eq_true rfl, Nat.le_of_ble_eq_true rfl⟩) (tWm hP) (hK.sub [0] rfl) hN rfl rfl rfl rfl hl.1 (Nat.le_of_ble_eq_true rfl) ⟨by show _ ≤ 601024; omega, by show _ ≤ 7293034; omega⟩ dL_law_1236 ?_
  refine lv_iload hx hb dL_law_1239 (lv_at hl 1 rfl) ?_
  refine lv_icmp_eq (tgt := 1246) hx hb dL_law_1241 (by decide) (fun ceq => ?_) (fun ceq => ?_)
  · refine lv_iload hx hb dL_law_1246 (lv_at hl 1 rfl) ?_
    refine lv_if_ne (tgt := 1263) hx hb dL_law_1248 (by decide) (fun c5 => ?_) (fun c5 => ?_)
    · rcases hk5 with ⟨hk0, -⟩ | ⟨⟨-, -, hrel6⟩, hu⟩
      · exact absurd hk0 c5
      · cases hu
        refine lv_goto (tgt := 1750) hx hb dL_law_1263 (by decide) ?_
        refine W.widen (k := k + 8) (n := n + 48) (by omega) (by omega) ?_
        exact kk _ _ _ gh gs gr gm' f hrel6 hP hD hS (lv_sub hl [2, 3, 4, 5, 6] rfl)
    · rcases hk5 with ⟨hk0, r6, hout, ht0, hr6, hrel6⟩ | ⟨⟨-, hne, -⟩, hu⟩
      · refine lv_aload_n hx hb dL_law_1251 rfl (lv_at hl 3 rfl) ?_
        refine lv_iconst (v := 0) hx hb dL_law_1252 (by decide) ?_
        refine va_lald hx hb hK hP 0 1 rfl rfl vp01 dL_law_1253 ?_
        refine lv_iload hx hb dL_law_1254 (lv_at hl 0 rfl) ?_
        refine lv_i2l hx hb dL_law_1256 rfl ?_
        refine W.lcmp hx hb dL_law_1257 ?_
        refine lv_if_eq (tgt := 1263) hx hb dL_law_1258 (by decide) (fun c6 => ?_) (fun c6 => ?_)
        · refine lv_goto (tgt := 1750) hx hb dL_law_1263 (by decide) ?_
          refine W.widen (k := k + 8) (n := n + 48) (by omega) (by omega) ?_
          exact kk _ _ _ uh us ur gm' uf hrel6 hP hD hS (lv_sub hl [2, 3, 4, 5, 6] rfl)
        · exact absurd (by rw [show uf (0 : Int32).toNatClampNeg = r6.toInt64 from hout, hr6]; exact lw_cmp _) c6
      · exact absurd c5 hne
  · rcases hk5 with ⟨hk0, r6, hout, ht0, hr6, hrel6⟩ | ⟨⟨he6, -, -⟩, hu⟩
    · exact absurd (ht0.trans hk0.symm) ceq
    · exact absurd he6 ceq
def Sim_found (Rel : St → St → St → St → Prop) : Prop := ∀ (gh gs gr gm : St) (a1 : Int32) (a2 : Int32) (a3 : Int32), Rel gh gs gr gm → ∃ (b6 : Int32) (gm' : St), P_X5_found gm a1 a2 a3 b6 gm' ∧ P_X4_found gh gs gr a1 a2 a3 (fun (r : Int32) (gh' gs' gr' : St) => gm' 0 0 = 0 ∧ r = b6 ∧ Rel gh' gs' gr' gm') (fun E : String => (E = E_i ∧ (gm' 0 0 = 1 ∧ ¬ (1 : Int32) = 0 ∧ Rel gh gs gr gm')) ∨ (E = E_a ∧ (gm' 0 0 = 2 ∧ ¬ (2 : Int32) = 0 ∧ Rel gh gs gr gm')) ∨ (E = E_s ∧ (gm' 0 0 = 3 ∧ ¬ (3 : Int32) = 0 ∧ Rel gh gs gr gm')))
set_option maxRecDepth 100000 in
set_option maxHeartbeats 4000000 in
theorem law_c18 {p : Program} {l : Launch} {e : Env} {s : State} {m : MethodId} {below : List Frame} {meth : Method} {c : Code} {b L : Nat} {xs : Nat → Int32} {dC : Nat → ClassId} {dI : Nat → Nat → Nat} {cI cJ : ClassId} {o b0 : Nat} {qh qs qr qm : Nat → Nat} {Rel : St → St → St → St → Prop} {x4 : Int32} {k n : Nat} (hE : lw_Env p l s m c b L xs dC dI cI cJ) (hSim : Sim_found Rel) {j : Nat} (hi : x4 = nI j) (hj : j + 8 ≤ L) (hk : k + 8 ≤ 601024) (hn : n + 48 ≤ 7293034) (kk : law_at p l e s m below meth c b dC dI cI cJ o b0 qh qs qr qm Rel 1750 x4 (k + 8) (n + 48)) : law_at p l e s m below meth c b dC dI cI cJ o b0 qh qs qr qm Rel 1266 x4 k n := by
  intro H locs ls gh gs gr gm f hrel hP hD hS hl
  obtain ⟨hx, hb, hml, hown, hts, hX, hbl, hK, hN, hXS, hXH, hfl, hL⟩ := id hE
  have hA : ∀ q : Nat, s.heap.size ≤ q → (fun q : Nat => s.heap.size ≤ q) q := fun _ h => h
  have hbA : ¬ (fun q : Nat => s.heap.size ≤ q) b := Nat.not_le.mpr hbl
  obtain ⟨b6, gm', hm6, hx6⟩ := hSim gh gs gr gm (xs (x4 + (1 : Int32)).toNatClampNeg) (xs (x4 + (2 : Int32)).toNatClampNeg) (xs (x4 + (3 : Int32)).toNatClampNeg) hrel
  refine lv_aload_n hx hb dL_law_1266 rfl (lv_at hl 3 rfl) ?_
  refine lv_aload_n hx hb dL_law_1267 rfl (lv_at hl 4 rfl) ?_
  refine lv_iload hx hb dL_law_1268 (lv_at hl 0 rfl) ?_
  refine lv_iconst (v := 1) hx hb dL_law_1270 (by decide) ?_
  refine lv_iadd hx hb dL_law_1271 ?_
  refine va_sld hx hb hX hbl hbA hS (lw_in hi 1 (by omega) hL) dL_law_1272 ?_
  refine lv_aload_n hx hb dL_law_1273 rfl (lv_at hl 4 rfl) ?_
  refine lv_iload hx hb dL_law_1274 (lv_at hl 0 rfl) ?_
  refine lv_iconst (v := 2) hx hb dL_law_1276 (by decide) ?_
  refine lv_iadd hx hb dL_law_1277 ?_
  refine va_sld hx hb hX hbl hbA hS (lw_in hi 2 (by omega) hL) dL_law_1278 ?_
  refine lv_aload_n hx hb dL_law_1279 rfl (lv_at hl 4 rfl) ?_
  refine lv_iload hx hb dL_law_1280 (lv_at hl 0 rfl) ?_
  refine lv_iconst (v := 3) hx hb dL_law_1282 (by decide) ?_
  refine lv_iadd hx hb dL_law_1283 ?_
  refine va_sld hx hb hX hbl hbA hS (lw_in hi 3 (by omega) hL) dL_law_1284 ?_
  refine lv_aload_n hx hb dL_law_1285 rfl (lv_at hl 1 rfl) ?_
  refine tw_S (As := [.ref b0, .int (xs (x4 + (1 : Int32)).toNatClampNeg), .int (xs (x4 + (2 : Int32)).toNatClampNeg), .int (xs (x4 + (3 : Int32)).toNatClampNeg), .ref o]) (rest := []) (w1 := []) (w2 := wX5 qm cI gm) (wsd := fun u : St × St × St × (Nat → Int64) => wW o cJ u.2.2.2 b0 qh qs qr cI u.1 u.2.1 u.2.2.1 qm gm) ⟨hx, hb, hml, hown, hts⟩ (c_L_found l hfl dC dI cI cJ o f b0 qh qs qr gh gs gr (xs (x4 + (1 : Int32)).toNatClampNeg) (xs (x4 + (2 : Int32)).toNatClampNeg) (xs (x4 + (3 : Int32)).toNatClampNeg) (fun (r : Int32) (gh' gs' gr' : St) => gm' 0 0 = 0 ∧ r = b6 ∧ Rel gh' gs' gr' gm') (fun k : Int32 => gm' 0 0 = k ∧ ¬ k = 0 ∧ Rel gh gs gr gm') hx6 _) (vx_cwSW 5 hts gL_law_L_found rfl rfl rfl (by decide +kernel) ⟨Nat.le_of_ble_eq_true rfl, Nat.le_of_ble_eq_true rfl⟩) hP hD hS hA hK hN hXS hXH rfl (fun u => rfl) rfl rfl hl.1 (Nat.le_of_ble_eq_true rfl) ⟨by show _ ≤ 601024; omega, by show _ ≤ 7293034; omega⟩ dL_law_1286 (fun k5 u H locs hk5 hP hD hS => ?_)
  obtain ⟨uh, us, ur, uf⟩ := u
  refine lv_istore (lv' := [(5, .int k5), (4, .int x4), (3, .ref o), (2, .ref (qm 0)), (1, .ref b0), (0, .ref b)]) hx hb dL_law_1289 hl (by decide) rfl (fun ls hl => ?_)
  refine lv_aload_n hx hb dL_law_1291 rfl (lv_at hl 3 rfl) ?_
  refine lv_aload_n hx hb dL_law_1292 rfl (lv_at hl 5 rfl) ?_
  refine lv_iload hx hb dL_law_1293 (lv_at hl 1 rfl) ?_
  refine lv_iconst (v := 1) hx hb dL_law_1295 (by decide) ?_
  refine lv_iadd hx hb dL_law_1296 ?_
  refine va_sld hx hb hX hbl hbA hS (lw_in hi 1 (by omega) hL) dL_law_1297 ?_
  refine lv_aload_n hx hb dL_law_1298 rfl (lv_at hl 5 rfl) ?_
  refine lv_iload hx hb dL_law_1299 (lv_at hl 1 rfl) ?_
  refine lv_iconst (v := 2) hx hb dL_law_1301 (by decide) ?_
  refine lv_iadd hx hb dL_law_1302 ?_
  refine va_sld hx hb hX hbl hbA hS (lw_in hi 2 (by omega) hL) dL_law_1303 ?_
  refine lv_aload_n hx hb dL_law_1304 rfl (lv_at hl 5 rfl) ?_
  refine lv_iload hx hb dL_law_1305 (lv_at hl 1 rfl) ?_
  refine lv_iconst (v := 3) hx hb dL_law_1307 (by decide) ?_
  refine lv_iadd hx hb dL_law_1308 ?_
  refine va_sld hx hb hX hbl hbA hS (lw_in hi 3 (by omega) hL) dL_law_1309 ?_
  refine wr_Vi (As := [.int (xs (x4 + (1 : Int32)).toNatClampNeg), .int (xs (x4 + (2 : Int32)).toNatClampNeg), .int (xs (x4 + (3 : Int32)).toNatClampNeg)]) (rest := []) (w1 := wL o cJ uf b0 qh qs qr cI uh us ur) (w2 := []) (ws1 := wW o cJ uf b0 qh qs qr cI uh us ur qm gm') ⟨hx, hb, hml, hown, hts⟩ (c_X5_found l dC dI cI qm gm (xs (x4 + (1 : Int32)).toNatClampNeg) (xs (x4 + (2 : Int32)).toNatClampNeg) (xs (x4 + (3 : Int32)).toNatClampNeg) b6 gm' hm6 _) (cwV 3 hts gL_law_X5_found rfl rfl rfl (by decide +kernel) ⟨Nat.le_of_ble_eq_true rfl, Nat.le_of_ble_eq_true rfl⟩) hP hD hS hA (hK.sub [0] rfl) hN (wW_M o cJ uf b0 qh qs qr cI uh us ur qm gm) (wW_M o cJ uf b0 qh qs qr cI uh us ur qm gm').symm rfl rfl rfl rfl hl.1 (Nat.le_of_ble_eq_true rfl) ⟨by show _ ≤ 601024; omega, by show _ ≤ 7293034; omega⟩ dL_law_1310 (fun H locs hP hD hS => ?_)
  refine lv_istore (lv' := [(6, .int b6), (5, .int k5), (4, .int x4), (3, .ref o), (2, .ref (qm 0)), (1, .ref b0), (0, .ref b)]) hx hb dL_law_1313 hl (by decide) rfl (fun ls hl => ?_)
  refine lv_aload_n hx hb dL_law_1315 rfl (lv_at hl 4 rfl) ?_
  refine ro_V (As := []) (rest := []) ⟨hx, hb, hml, hown, hts⟩ (c_X5_thrown l dC dI cI qm gm' (gm' 0 0) rfl) (cwV 0 hts gL_law_X5_thrown rfl rfl rfl (by decide +kernel) ⟨Nat.le_of_ble_eq_true rfl, Nat.le_of_ble_eq_true rfl⟩) (tWm hP) (hK.sub [0] rfl) hN rfl rfl rfl rfl hl.1 (Nat.le_of_ble_eq_true rfl) ⟨by show _ ≤ 601024; omega, by show _ ≤ 7293034; omega⟩ dL_law_1316 ?_
  refine lv_iload hx hb dL_law_1319 (lv_at hl 1 rfl) ?_
  refine lv_icmp_eq (tgt := 1326) hx hb dL_law_1321 (by decide) (fun ceq => ?_) (fun ceq => ?_)
  · refine lv_iload hx hb dL_law_1326 (lv_at hl 1 rfl) ?_
    refine lv_if_ne (tgt := 1343) hx hb dL_law_1328 (by decide) (fun c5 => ?_) (fun c5 => ?_)
    · rcases hk5 with ⟨hk0, -⟩ | ⟨⟨-, -, hrel6⟩, hu⟩
      · exact absurd hk0 c5
      · cases hu
        refine lv_goto (tgt := 1750) hx hb dL_law_1343 (by decide) ?_
        refine W.widen (k := k + 8) (n := n + 48) (by omega) (by omega) ?_
        exact kk _ _ _ gh gs gr gm' f hrel6 hP hD hS (lv_sub hl [2, 3, 4, 5, 6] rfl)
    · rcases hk5 with ⟨hk0, r6, hout, ht0, hr6, hrel6⟩ | ⟨⟨-, hne, -⟩, hu⟩
      · refine lv_aload_n hx hb dL_law_1331 rfl (lv_at hl 3 rfl) ?_
        refine lv_iconst (v := 0) hx hb dL_law_1332 (by decide) ?_
        refine va_lald hx hb hK hP 0 1 rfl rfl vp01 dL_law_1333 ?_
        refine lv_iload hx hb dL_law_1334 (lv_at hl 0 rfl) ?_
        refine lv_i2l hx hb dL_law_1336 rfl ?_
        refine W.lcmp hx hb dL_law_1337 ?_
        refine lv_if_eq (tgt := 1343) hx hb dL_law_1338 (by decide) (fun c6 => ?_) (fun c6 => ?_)
        · refine lv_goto (tgt := 1750) hx hb dL_law_1343 (by decide) ?_
          refine W.widen (k := k + 8) (n := n + 48) (by omega) (by omega) ?_
          exact kk _ _ _ uh us ur gm' uf hrel6 hP hD hS (lv_sub hl [2, 3, 4, 5, 6] rfl)
        · exact absurd (by rw [show uf (0 : Int32).toNatClampNeg = r6.toInt64 from hout, hr6]; exact lw_cmp _) c6
      · exact absurd c5 hne
  · rcases hk5 with ⟨hk0, r6, hout, ht0, hr6, hrel6⟩ | ⟨⟨he6, -, -⟩, hu⟩
    · exact absurd (ht0.trans hk0.symm) ceq
    · exact absurd he6 ceq
def Sim_pieces (Rel : St → St → St → St → Prop) : Prop := ∀ (gh gs gr gm : St) (a1 : Int32) (a2 : Int32), Rel gh gs gr gm → ∃ (b6 : Int32) (gm' : St), P_X5_pieces gm a1 a2 b6 gm' ∧ P_X4_pieces gh gs gr a1 a2 (fun (r : Int32) (gh' gs' gr' : St) => gm' 0 0 = 0 ∧ r = b6 ∧ Rel gh' gs' gr' gm') (fun E : String => (E = E_i ∧ (gm' 0 0 = 1 ∧ ¬ (1 : Int32) = 0 ∧ Rel gh gs gr gm')))
set_option maxRecDepth 100000 in
set_option maxHeartbeats 4000000 in
theorem law_c19 {p : Program} {l : Launch} {e : Env} {s : State} {m : MethodId} {below : List Frame} {meth : Method} {c : Code} {b L : Nat} {xs : Nat → Int32} {dC : Nat → ClassId} {dI : Nat → Nat → Nat} {cI cJ : ClassId} {o b0 : Nat} {qh qs qr qm : Nat → Nat} {Rel : St → St → St → St → Prop} {x4 : Int32} {k n : Nat} (hE : lw_Env p l s m c b L xs dC dI cI cJ) (hSim : Sim_pieces Rel) {j : Nat} (hi : x4 = nI j) (hj : j + 8 ≤ L) (hk : k + 8 ≤ 601024) (hn : n + 48 ≤ 7293034) (kk : law_at p l e s m below meth c b dC dI cI cJ o b0 qh qs qr qm Rel 1750 x4 (k + 8) (n + 48)) : law_at p l e s m below meth c b dC dI cI cJ o b0 qh qs qr qm Rel 1346 x4 k n := by
  intro H locs ls gh gs gr gm f hrel hP hD hS hl
  obtain ⟨hx, hb, hml, hown, hts, hX, hbl, hK, hN, hXS, hXH, hfl, hL⟩ := id hE
  have hA : ∀ q : Nat, s.heap.size ≤ q → (fun q : Nat => s.heap.size ≤ q) q := fun _ h => h
  have hbA : ¬ (fun q : Nat => s.heap.size ≤ q) b := Nat.not_le.mpr hbl
  obtain ⟨b6, gm', hm6, hx6⟩ := hSim gh gs gr gm (xs (x4 + (1 : Int32)).toNatClampNeg) (xs (x4 + (2 : Int32)).toNatClampNeg) hrel
  refine lv_aload_n hx hb dL_law_1346 rfl (lv_at hl 3 rfl) ?_
  refine lv_aload_n hx hb dL_law_1347 rfl (lv_at hl 4 rfl) ?_
  refine lv_iload hx hb dL_law_1348 (lv_at hl 0 rfl) ?_
  refine lv_iconst (v := 1) hx hb dL_law_1350 (by decide) ?_
  refine lv_iadd hx hb dL_law_1351 ?_
  refine va_sld hx hb hX hbl hbA hS (lw_in hi 1 (by omega) hL) dL_law_1352 ?_
  refine lv_aload_n hx hb dL_law_1353 rfl (lv_at hl 4 rfl) ?_
  refine lv_iload hx hb dL_law_1354 (lv_at hl 0 rfl) ?_
  refine lv_iconst (v := 2) hx hb dL_law_1356 (by decide) ?_
  refine lv_iadd hx hb dL_law_1357 ?_
  refine va_sld hx hb hX hbl hbA hS (lw_in hi 2 (by omega) hL) dL_law_1358 ?_
  refine lv_aload_n hx hb dL_law_1359 rfl (lv_at hl 1 rfl) ?_
  refine tw_S (As := [.ref b0, .int (xs (x4 + (1 : Int32)).toNatClampNeg), .int (xs (x4 + (2 : Int32)).toNatClampNeg), .ref o]) (rest := []) (w1 := []) (w2 := wX5 qm cI gm) (wsd := fun u : St × St × St × (Nat → Int64) => wW o cJ u.2.2.2 b0 qh qs qr cI u.1 u.2.1 u.2.2.1 qm gm) ⟨hx, hb, hml, hown, hts⟩ (c_L_pieces l hfl dC dI cI cJ o f b0 qh qs qr gh gs gr (xs (x4 + (1 : Int32)).toNatClampNeg) (xs (x4 + (2 : Int32)).toNatClampNeg) (fun (r : Int32) (gh' gs' gr' : St) => gm' 0 0 = 0 ∧ r = b6 ∧ Rel gh' gs' gr' gm') (fun k : Int32 => gm' 0 0 = k ∧ ¬ k = 0 ∧ Rel gh gs gr gm') hx6 _) (vx_cwSW 4 hts gL_law_L_pieces rfl rfl rfl (by decide +kernel) ⟨Nat.le_of_ble_eq_true rfl, Nat.le_of_ble_eq_true rfl⟩) hP hD hS hA hK hN hXS hXH rfl (fun u => rfl) rfl rfl hl.1 (Nat.le_of_ble_eq_true rfl) ⟨by show _ ≤ 601024; omega, by show _ ≤ 7293034; omega⟩ dL_law_1360 (fun k5 u H locs hk5 hP hD hS => ?_)
  obtain ⟨uh, us, ur, uf⟩ := u
  refine lv_istore (lv' := [(5, .int k5), (4, .int x4), (3, .ref o), (2, .ref (qm 0)), (1, .ref b0), (0, .ref b)]) hx hb dL_law_1363 hl (by decide) rfl (fun ls hl => ?_)
  refine lv_aload_n hx hb dL_law_1365 rfl (lv_at hl 3 rfl) ?_
  refine lv_aload_n hx hb dL_law_1366 rfl (lv_at hl 5 rfl) ?_
  refine lv_iload hx hb dL_law_1367 (lv_at hl 1 rfl) ?_
  refine lv_iconst (v := 1) hx hb dL_law_1369 (by decide) ?_
  refine lv_iadd hx hb dL_law_1370 ?_
  refine va_sld hx hb hX hbl hbA hS (lw_in hi 1 (by omega) hL) dL_law_1371 ?_
  refine lv_aload_n hx hb dL_law_1372 rfl (lv_at hl 5 rfl) ?_
  refine lv_iload hx hb dL_law_1373 (lv_at hl 1 rfl) ?_
  refine lv_iconst (v := 2) hx hb dL_law_1375 (by decide) ?_
  refine lv_iadd hx hb dL_law_1376 ?_
  refine va_sld hx hb hX hbl hbA hS (lw_in hi 2 (by omega) hL) dL_law_1377 ?_
  refine wr_Vi (As := [.int (xs (x4 + (1 : Int32)).toNatClampNeg), .int (xs (x4 + (2 : Int32)).toNatClampNeg)]) (rest := []) (w1 := wL o cJ uf b0 qh qs qr cI uh us ur) (w2 := []) (ws1 := wW o cJ uf b0 qh qs qr cI uh us ur qm gm') ⟨hx, hb, hml, hown, hts⟩ (c_X5_pieces l dC dI cI qm gm (xs (x4 + (1 : Int32)).toNatClampNeg) (xs (x4 + (2 : Int32)).toNatClampNeg) b6 gm' hm6 _) (cwV 2 hts gL_law_X5_pieces rfl rfl rfl (by decide +kernel) ⟨Nat.le_of_ble_eq_true rfl, Nat.le_of_ble_eq_true rfl⟩) hP hD hS hA (hK.sub [0] rfl) hN (wW_M o cJ uf b0 qh qs qr cI uh us ur qm gm) (wW_M o cJ uf b0 qh qs qr cI uh us ur qm gm').symm rfl rfl rfl rfl hl.1 (Nat.le_of_ble_eq_true rfl) ⟨by show _ ≤ 601024; omega, by show _ ≤ 7293034; omega⟩ dL_law_1378 (fun H locs hP hD hS => ?_)
  refine lv_istore (lv' := [(6, .int b6), (5, .int k5), (4, .int x4), (3, .ref o), (2, .ref (qm 0)), (1, .ref b0), (0, .ref b)]) hx hb dL_law_1381 hl (by decide) rfl (fun ls hl => ?_)
  refine lv_aload_n hx hb dL_law_1383 rfl (lv_at hl 4 rfl) ?_
  refine ro_V (As := []) (rest := []) ⟨hx, hb, hml, hown, hts⟩ (c_X5_thrown l dC dI cI qm gm' (gm' 0 0) rfl) (cwV 0 hts gL_law_X5_thrown rfl rfl rfl (by decide +kernel) ⟨Nat.le_of_ble_eq_true rfl, Nat.le_of_ble_eq_true rfl⟩) (tWm hP) (hK.sub [0] rfl) hN rfl rfl rfl rfl hl.1 (Nat.le_of_ble_eq_true rfl) ⟨by show _ ≤ 601024; omega, by show _ ≤ 7293034; omega⟩ dL_law_1384 ?_
  refine lv_iload hx hb dL_law_1387 (lv_at hl 1 rfl) ?_
  refine lv_icmp_eq (tgt := 1394) hx hb dL_law_1389 (by decide) (fun ceq => ?_) (fun ceq => ?_)
  · refine lv_iload hx hb dL_law_1394 (lv_at hl 1 rfl) ?_
    refine lv_if_ne (tgt := 1411) hx hb dL_law_1396 (by decide) (fun c5 => ?_) (fun c5 => ?_)
    · rcases hk5 with ⟨hk0, -⟩ | ⟨⟨-, -, hrel6⟩, hu⟩
      · exact absurd hk0 c5
      · cases hu
        refine lv_goto (tgt := 1750) hx hb dL_law_1411 (by decide) ?_
        refine W.widen (k := k + 8) (n := n + 48) (by omega) (by omega) ?_
        exact kk _ _ _ gh gs gr gm' f hrel6 hP hD hS (lv_sub hl [2, 3, 4, 5, 6] rfl)
    · rcases hk5 with ⟨hk0, r6, hout, ht0, hr6, hrel6⟩ | ⟨⟨-, hne, -⟩, hu⟩
      · refine lv_aload_n hx hb dL_law_1399 rfl (lv_at hl 3 rfl) ?_
        refine lv_iconst (v := 0) hx hb dL_law_1400 (by decide) ?_
        refine va_lald hx hb hK hP 0 1 rfl rfl vp01 dL_law_1401 ?_
        refine lv_iload hx hb dL_law_1402 (lv_at hl 0 rfl) ?_
        refine lv_i2l hx hb dL_law_1404 rfl ?_
        refine W.lcmp hx hb dL_law_1405 ?_
        refine lv_if_eq (tgt := 1411) hx hb dL_law_1406 (by decide) (fun c6 => ?_) (fun c6 => ?_)
        · refine lv_goto (tgt := 1750) hx hb dL_law_1411 (by decide) ?_
          refine W.widen (k := k + 8) (n := n + 48) (by omega) (by omega) ?_
          exact kk _ _ _ uh us ur gm' uf hrel6 hP hD hS (lv_sub hl [2, 3, 4, 5, 6] rfl)
        · exact absurd (by rw [show uf (0 : Int32).toNatClampNeg = r6.toInt64 from hout, hr6]; exact lw_cmp _) c6
      · exact absurd c5 hne
  · rcases hk5 with ⟨hk0, r6, hout, ht0, hr6, hrel6⟩ | ⟨⟨he6, -, -⟩, hu⟩
    · exact absurd (ht0.trans hk0.symm) ceq
    · exact absurd he6 ceq
def Sim_stateOf (Rel : St → St → St → St → Prop) : Prop := ∀ (gh gs gr gm : St) (a1 : Int32), Rel gh gs gr gm → ∃ (b6 : Int32) (gm' : St), P_X5_stateOf gm a1 b6 gm' ∧ P_X4_stateOf gh gs gr a1 (fun (r : Int32) (gh' gs' gr' : St) => gm' 0 0 = 0 ∧ r = b6 ∧ Rel gh' gs' gr' gm') (fun E : String => (E = E_i ∧ (gm' 0 0 = 1 ∧ ¬ (1 : Int32) = 0 ∧ Rel gh gs gr gm')))
set_option maxRecDepth 100000 in
set_option maxHeartbeats 4000000 in
theorem law_c20 {p : Program} {l : Launch} {e : Env} {s : State} {m : MethodId} {below : List Frame} {meth : Method} {c : Code} {b L : Nat} {xs : Nat → Int32} {dC : Nat → ClassId} {dI : Nat → Nat → Nat} {cI cJ : ClassId} {o b0 : Nat} {qh qs qr qm : Nat → Nat} {Rel : St → St → St → St → Prop} {x4 : Int32} {k n : Nat} (hE : lw_Env p l s m c b L xs dC dI cI cJ) (hSim : Sim_stateOf Rel) {j : Nat} (hi : x4 = nI j) (hj : j + 8 ≤ L) (hk : k + 8 ≤ 601024) (hn : n + 48 ≤ 7293034) (kk : law_at p l e s m below meth c b dC dI cI cJ o b0 qh qs qr qm Rel 1750 x4 (k + 8) (n + 48)) : law_at p l e s m below meth c b dC dI cI cJ o b0 qh qs qr qm Rel 1414 x4 k n := by
  intro H locs ls gh gs gr gm f hrel hP hD hS hl
  obtain ⟨hx, hb, hml, hown, hts, hX, hbl, hK, hN, hXS, hXH, hfl, hL⟩ := id hE
  have hA : ∀ q : Nat, s.heap.size ≤ q → (fun q : Nat => s.heap.size ≤ q) q := fun _ h => h
  have hbA : ¬ (fun q : Nat => s.heap.size ≤ q) b := Nat.not_le.mpr hbl
  obtain ⟨b6, gm', hm6, hx6⟩ := hSim gh gs gr gm (xs (x4 + (1 : Int32)).toNatClampNeg) hrel
  refine lv_aload_n hx hb dL_law_1414 rfl (lv_at hl 3 rfl) ?_
  refine lv_aload_n hx hb dL_law_1415 rfl (lv_at hl 4 rfl) ?_
  refine lv_iload hx hb dL_law_1416 (lv_at hl 0 rfl) ?_
  refine lv_iconst (v := 1) hx hb dL_law_1418 (by decide) ?_
  refine lv_iadd hx hb dL_law_1419 ?_
  refine va_sld hx hb hX hbl hbA hS (lw_in hi 1 (by omega) hL) dL_law_1420 ?_
  refine lv_aload_n hx hb dL_law_1421 rfl (lv_at hl 1 rfl) ?_
  refine tw_S (As := [.ref b0, .int (xs (x4 + (1 : Int32)).toNatClampNeg), .ref o]) (rest := []) (w1 := []) (w2 := wX5 qm cI gm) (wsd := fun u : St × St × St × (Nat → Int64) => wW o cJ u.2.2.2 b0 qh qs qr cI u.1 u.2.1 u.2.2.1 qm gm) ⟨hx, hb, hml, hown, hts⟩ (c_L_stateOf l hfl dC dI cI cJ o f b0 qh qs qr gh gs gr (xs (x4 + (1 : Int32)).toNatClampNeg) (fun (r : Int32) (gh' gs' gr' : St) => gm' 0 0 = 0 ∧ r = b6 ∧ Rel gh' gs' gr' gm') (fun k : Int32 => gm' 0 0 = k ∧ ¬ k = 0 ∧ Rel gh gs gr gm') hx6 _) (vx_cwSW 3 hts gL_law_L_stateOf rfl rfl rfl (by decide +kernel) ⟨Nat.le_of_ble_eq_true rfl, Nat.le_of_ble_eq_true rfl⟩) hP hD hS hA hK hN hXS hXH rfl (fun u => rfl) rfl rfl hl.1 (Nat.le_of_ble_eq_true rfl) ⟨by show _ ≤ 601024; omega, by show _ ≤ 7293034; omega⟩ dL_law_1422 (fun k5 u H locs hk5 hP hD hS => ?_)
  obtain ⟨uh, us, ur, uf⟩ := u
  refine lv_istore (lv' := [(5, .int k5), (4, .int x4), (3, .ref o), (2, .ref (qm 0)), (1, .ref b0), (0, .ref b)]) hx hb dL_law_1425 hl (by decide) rfl (fun ls hl => ?_)
  refine lv_aload_n hx hb dL_law_1427 rfl (lv_at hl 3 rfl) ?_
  refine lv_aload_n hx hb dL_law_1428 rfl (lv_at hl 5 rfl) ?_
  refine lv_iload hx hb dL_law_1429 (lv_at hl 1 rfl) ?_
  refine lv_iconst (v := 1) hx hb dL_law_1431 (by decide) ?_
  refine lv_iadd hx hb dL_law_1432 ?_
  refine va_sld hx hb hX hbl hbA hS (lw_in hi 1 (by omega) hL) dL_law_1433 ?_
  refine wr_Vi (As := [.int (xs (x4 + (1 : Int32)).toNatClampNeg)]) (rest := []) (w1 := wL o cJ uf b0 qh qs qr cI uh us ur) (w2 := []) (ws1 := wW o cJ uf b0 qh qs qr cI uh us ur qm gm') ⟨hx, hb, hml, hown, hts⟩ (c_X5_stateOf l dC dI cI qm gm (xs (x4 + (1 : Int32)).toNatClampNeg) b6 gm' hm6 _) (cwV 1 hts gL_law_X5_stateOf rfl rfl rfl (by decide +kernel) ⟨Nat.le_of_ble_eq_true rfl, Nat.le_of_ble_eq_true rfl⟩) hP hD hS hA (hK.sub [0] rfl) hN (wW_M o cJ uf b0 qh qs qr cI uh us ur qm gm) (wW_M o cJ uf b0 qh qs qr cI uh us ur qm gm').symm rfl rfl rfl rfl hl.1 (Nat.le_of_ble_eq_true rfl) ⟨by show _ ≤ 601024; omega, by show _ ≤ 7293034; omega⟩ dL_law_1434 (fun H locs hP hD hS => ?_)
  refine lv_istore (lv' := [(6, .int b6), (5, .int k5), (4, .int x4), (3, .ref o), (2, .ref (qm 0)), (1, .ref b0), (0, .ref b)]) hx hb dL_law_1437 hl (by decide) rfl (fun ls hl => ?_)
  refine lv_aload_n hx hb dL_law_1439 rfl (lv_at hl 4 rfl) ?_
  refine ro_V (As := []) (rest := []) ⟨hx, hb, hml, hown, hts⟩ (c_X5_thrown l dC dI cI qm gm' (gm' 0 0) rfl) (cwV 0 hts gL_law_X5_thrown rfl rfl rfl (by decide +kernel) ⟨Nat.le_of_ble_eq_true rfl, Nat.le_of_ble_eq_true rfl⟩) (tWm hP) (hK.sub [0] rfl) hN rfl rfl rfl rfl hl.1 (Nat.le_of_ble_eq_true rfl) ⟨by show _ ≤ 601024; omega, by show _ ≤ 7293034; omega⟩ dL_law_1440 ?_
  refine lv_iload hx hb dL_law_1443 (lv_at hl 1 rfl) ?_
  refine lv_icmp_eq (tgt := 1450) hx hb dL_law_1445 (by decide) (fun ceq => ?_) (fun ceq => ?_)
  · refine lv_iload hx hb dL_law_1450 (lv_at hl 1 rfl) ?_
    refine lv_if_ne (tgt := 1467) hx hb dL_law_1452 (by decide) (fun c5 => ?_) (fun c5 => ?_)
    · rcases hk5 with ⟨hk0, -⟩ | ⟨⟨-, -, hrel6⟩, hu⟩
      · exact absurd hk0 c5
      · cases hu
        refine lv_goto (tgt := 1750) hx hb dL_law_1467 (by decide) ?_
        refine W.widen (k := k + 8) (n := n + 48) (by omega) (by omega) ?_
        exact kk _ _ _ gh gs gr gm' f hrel6 hP hD hS (lv_sub hl [2, 3, 4, 5, 6] rfl)
    · rcases hk5 with ⟨hk0, r6, hout, ht0, hr6, hrel6⟩ | ⟨⟨-, hne, -⟩, hu⟩
      · refine lv_aload_n hx hb dL_law_1455 rfl (lv_at hl 3 rfl) ?_
        refine lv_iconst (v := 0) hx hb dL_law_1456 (by decide) ?_
        refine va_lald hx hb hK hP 0 1 rfl rfl vp01 dL_law_1457 ?_
        refine lv_iload hx hb dL_law_1458 (lv_at hl 0 rfl) ?_
        refine lv_i2l hx hb dL_law_1460 rfl ?_
        refine W.lcmp hx hb dL_law_1461 ?_
        refine lv_if_eq (tgt := 1467) hx hb dL_law_1462 (by decide) (fun c6 => ?_) (fun c6 => ?_)
        · refine lv_goto (tgt := 1750) hx hb dL_law_1467 (by decide) ?_
          refine W.widen (k := k + 8) (n := n + 48) (by omega) (by omega) ?_
          exact kk _ _ _ uh us ur gm' uf hrel6 hP hD hS (lv_sub hl [2, 3, 4, 5, 6] rfl)
        · exact absurd (by rw [show uf (0 : Int32).toNatClampNeg = r6.toInt64 from hout, hr6]; exact lw_cmp _) c6
      · exact absurd c5 hne
  · rcases hk5 with ⟨hk0, r6, hout, ht0, hr6, hrel6⟩ | ⟨⟨he6, -, -⟩, hu⟩
    · exact absurd (ht0.trans hk0.symm) ceq
    · exact absurd he6 ceq
def Sim_lenders (Rel : St → St → St → St → Prop) : Prop := ∀ (gh gs gr gm : St) (a1 : Int32), Rel gh gs gr gm → ∃ (b6 : Int32) (gm' : St), P_X5_lenders gm a1 b6 gm' ∧ P_X4_lenders gh gs gr a1 (fun (r : Int32) (gh' gs' gr' : St) => gm' 0 0 = 0 ∧ r = b6 ∧ Rel gh' gs' gr' gm') (fun E : String => (E = E_i ∧ (gm' 0 0 = 1 ∧ ¬ (1 : Int32) = 0 ∧ Rel gh gs gr gm')))
set_option maxRecDepth 100000 in
set_option maxHeartbeats 4000000 in
theorem law_c21 {p : Program} {l : Launch} {e : Env} {s : State} {m : MethodId} {below : List Frame} {meth : Method} {c : Code} {b L : Nat} {xs : Nat → Int32} {dC : Nat → ClassId} {dI : Nat → Nat → Nat} {cI cJ : ClassId} {o b0 : Nat} {qh qs qr qm : Nat → Nat} {Rel : St → St → St → St → Prop} {x4 : Int32} {k n : Nat} (hE : lw_Env p l s m c b L xs dC dI cI cJ) (hSim : Sim_lenders Rel) {j : Nat} (hi : x4 = nI j) (hj : j + 8 ≤ L) (hk : k + 8 ≤ 601024) (hn : n + 48 ≤ 7293034) (kk : law_at p l e s m below meth c b dC dI cI cJ o b0 qh qs qr qm Rel 1750 x4 (k + 8) (n + 48)) : law_at p l e s m below meth c b dC dI cI cJ o b0 qh qs qr qm Rel 1470 x4 k n := by
  intro H locs ls gh gs gr gm f hrel hP hD hS hl
  obtain ⟨hx, hb, hml, hown, hts, hX, hbl, hK, hN, hXS, hXH, hfl, hL⟩ := id hE
  have hA : ∀ q : Nat, s.heap.size ≤ q → (fun q : Nat => s.heap.size ≤ q) q := fun _ h => h
  have hbA : ¬ (fun q : Nat => s.heap.size ≤ q) b := Nat.not_le.mpr hbl
  obtain ⟨b6, gm', hm6, hx6⟩ := hSim gh gs gr gm (xs (x4 + (1 : Int32)).toNatClampNeg) hrel
  refine lv_aload_n hx hb dL_law_1470 rfl (lv_at hl 3 rfl) ?_
  refine lv_aload_n hx hb dL_law_1471 rfl (lv_at hl 4 rfl) ?_
  refine lv_iload hx hb dL_law_1472 (lv_at hl 0 rfl) ?_
  refine lv_iconst (v := 1) hx hb dL_law_1474 (by decide) ?_
  refine lv_iadd hx hb dL_law_1475 ?_
  refine va_sld hx hb hX hbl hbA hS (lw_in hi 1 (by omega) hL) dL_law_1476 ?_
  refine lv_aload_n hx hb dL_law_1477 rfl (lv_at hl 1 rfl) ?_
  refine tw_S (As := [.ref b0, .int (xs (x4 + (1 : Int32)).toNatClampNeg), .ref o]) (rest := []) (w1 := []) (w2 := wX5 qm cI gm) (wsd := fun u : St × St × St × (Nat → Int64) => wW o cJ u.2.2.2 b0 qh qs qr cI u.1 u.2.1 u.2.2.1 qm gm) ⟨hx, hb, hml, hown, hts⟩ (c_L_lenders l hfl dC dI cI cJ o f b0 qh qs qr gh gs gr (xs (x4 + (1 : Int32)).toNatClampNeg) (fun (r : Int32) (gh' gs' gr' : St) => gm' 0 0 = 0 ∧ r = b6 ∧ Rel gh' gs' gr' gm') (fun k : Int32 => gm' 0 0 = k ∧ ¬ k = 0 ∧ Rel gh gs gr gm') hx6 _) (vx_cwSW 3 hts gL_law_L_lenders rfl rfl rfl (by decide +kernel) ⟨Nat.le_of_ble_eq_true rfl, Nat.le_of_ble_eq_true rfl⟩) hP hD hS hA hK hN hXS hXH rfl (fun u => rfl) rfl rfl hl.1 (Nat.le_of_ble_eq_true rfl) ⟨by show _ ≤ 601024; omega, by show _ ≤ 7293034; omega⟩ dL_law_1478 (fun k5 u H locs hk5 hP hD hS => ?_)
  obtain ⟨uh, us, ur, uf⟩ := u
  refine lv_istore (lv' := [(5, .int k5), (4, .int x4), (3, .ref o), (2, .ref (qm 0)), (1, .ref b0), (0, .ref b)]) hx hb dL_law_1481 hl (by decide) rfl (fun ls hl => ?_)
  refine lv_aload_n hx hb dL_law_1483 rfl (lv_at hl 3 rfl) ?_
  refine lv_aload_n hx hb dL_law_1484 rfl (lv_at hl 5 rfl) ?_
  refine lv_iload hx hb dL_law_1485 (lv_at hl 1 rfl) ?_
  refine lv_iconst (v := 1) hx hb dL_law_1487 (by decide) ?_
  refine lv_iadd hx hb dL_law_1488 ?_
  refine va_sld hx hb hX hbl hbA hS (lw_in hi 1 (by omega) hL) dL_law_1489 ?_
  refine wr_Vi (As := [.int (xs (x4 + (1 : Int32)).toNatClampNeg)]) (rest := []) (w1 := wL o cJ uf b0 qh qs qr cI uh us ur) (w2 := []) (ws1 := wW o cJ uf b0 qh qs qr cI uh us ur qm gm') ⟨hx, hb, hml, hown, hts⟩ (c_X5_lenders l dC dI cI qm gm (xs (x4 + (1 : Int32)).toNatClampNeg) b6 gm' hm6 _) (cwV 1 hts gL_law_X5_lenders rfl rfl rfl (by decide +kernel) ⟨Nat.le_of_ble_eq_true rfl, Nat.le_of_ble_eq_true rfl⟩) hP hD hS hA (hK.sub [0] rfl) hN (wW_M o cJ uf b0 qh qs qr cI uh us ur qm gm) (wW_M o cJ uf b0 qh qs qr cI uh us ur qm gm').symm rfl rfl rfl rfl hl.1 (Nat.le_of_ble_eq_true rfl) ⟨by show _ ≤ 601024; omega, by show _ ≤ 7293034; omega⟩ dL_law_1490 (fun H locs hP hD hS => ?_)
  refine lv_istore (lv' := [(6, .int b6), (5, .int k5), (4, .int x4), (3, .ref o), (2, .ref (qm 0)), (1, .ref b0), (0, .ref b)]) hx hb dL_law_1493 hl (by decide) rfl (fun ls hl => ?_)
  refine lv_aload_n hx hb dL_law_1495 rfl (lv_at hl 4 rfl) ?_
  refine ro_V (As := []) (rest := []) ⟨hx, hb, hml, hown, hts⟩ (c_X5_thrown l dC dI cI qm gm' (gm' 0 0) rfl) (cwV 0 hts gL_law_X5_thrown rfl rfl rfl (by decide +kernel) ⟨Nat.le_of_ble_eq_true rfl, Nat.le_of_ble_eq_true rfl⟩) (tWm hP) (hK.sub [0] rfl) hN rfl rfl rfl rfl hl.1 (Nat.le_of_ble_eq_true rfl) ⟨by show _ ≤ 601024; omega, by show _ ≤ 7293034; omega⟩ dL_law_1496 ?_
  refine lv_iload hx hb dL_law_1499 (lv_at hl 1 rfl) ?_
  refine lv_icmp_eq (tgt := 1506) hx hb dL_law_1501 (by decide) (fun ceq => ?_) (fun ceq => ?_)
  · refine lv_iload hx hb dL_law_1506 (lv_at hl 1 rfl) ?_
    refine lv_if_ne (tgt := 1523) hx hb dL_law_1508 (by decide) (fun c5 => ?_) (fun c5 => ?_)
    · rcases hk5 with ⟨hk0, -⟩ | ⟨⟨-, -, hrel6⟩, hu⟩
      · exact absurd hk0 c5
      · cases hu
        refine lv_goto (tgt := 1750) hx hb dL_law_1523 (by decide) ?_
        refine W.widen (k := k + 8) (n := n + 48) (by omega) (by omega) ?_
        exact kk _ _ _ gh gs gr gm' f hrel6 hP hD hS (lv_sub hl [2, 3, 4, 5, 6] rfl)
    · rcases hk5 with ⟨hk0, r6, hout, ht0, hr6, hrel6⟩ | ⟨⟨-, hne, -⟩, hu⟩
      · refine lv_aload_n hx hb dL_law_1511 rfl (lv_at hl 3 rfl) ?_
        refine lv_iconst (v := 0) hx hb dL_law_1512 (by decide) ?_
        refine va_lald hx hb hK hP 0 1 rfl rfl vp01 dL_law_1513 ?_
        refine lv_iload hx hb dL_law_1514 (lv_at hl 0 rfl) ?_
        refine lv_i2l hx hb dL_law_1516 rfl ?_
        refine W.lcmp hx hb dL_law_1517 ?_
        refine lv_if_eq (tgt := 1523) hx hb dL_law_1518 (by decide) (fun c6 => ?_) (fun c6 => ?_)
        · refine lv_goto (tgt := 1750) hx hb dL_law_1523 (by decide) ?_
          refine W.widen (k := k + 8) (n := n + 48) (by omega) (by omega) ?_
          exact kk _ _ _ uh us ur gm' uf hrel6 hP hD hS (lv_sub hl [2, 3, 4, 5, 6] rfl)
        · exact absurd (by rw [show uf (0 : Int32).toNatClampNeg = r6.toInt64 from hout, hr6]; exact lw_cmp _) c6
      · exact absurd c5 hne
  · rcases hk5 with ⟨hk0, r6, hout, ht0, hr6, hrel6⟩ | ⟨⟨he6, -, -⟩, hu⟩
    · exact absurd (ht0.trans hk0.symm) ceq
    · exact absurd he6 ceq
def Sim_copyOf (Rel : St → St → St → St → Prop) : Prop := ∀ (gh gs gr gm : St) (a1 : Int32), Rel gh gs gr gm → ∃ (b6 : Int32) (gm' : St), P_X5_copyOf gm a1 b6 gm' ∧ P_X4_copyOf gh gs gr a1 (fun (r : Int32) (gh' gs' gr' : St) => gm' 0 0 = 0 ∧ r = b6 ∧ Rel gh' gs' gr' gm') (fun E : String => (E = E_i ∧ (gm' 0 0 = 1 ∧ ¬ (1 : Int32) = 0 ∧ Rel gh gs gr gm')))
set_option maxRecDepth 100000 in
set_option maxHeartbeats 4000000 in
theorem law_c22 {p : Program} {l : Launch} {e : Env} {s : State} {m : MethodId} {below : List Frame} {meth : Method} {c : Code} {b L : Nat} {xs : Nat → Int32} {dC : Nat → ClassId} {dI : Nat → Nat → Nat} {cI cJ : ClassId} {o b0 : Nat} {qh qs qr qm : Nat → Nat} {Rel : St → St → St → St → Prop} {x4 : Int32} {k n : Nat} (hE : lw_Env p l s m c b L xs dC dI cI cJ) (hSim : Sim_copyOf Rel) {j : Nat} (hi : x4 = nI j) (hj : j + 8 ≤ L) (hk : k + 8 ≤ 601024) (hn : n + 48 ≤ 7293034) (kk : law_at p l e s m below meth c b dC dI cI cJ o b0 qh qs qr qm Rel 1750 x4 (k + 8) (n + 48)) : law_at p l e s m below meth c b dC dI cI cJ o b0 qh qs qr qm Rel 1526 x4 k n := by
  intro H locs ls gh gs gr gm f hrel hP hD hS hl
  obtain ⟨hx, hb, hml, hown, hts, hX, hbl, hK, hN, hXS, hXH, hfl, hL⟩ := id hE
  have hA : ∀ q : Nat, s.heap.size ≤ q → (fun q : Nat => s.heap.size ≤ q) q := fun _ h => h
  have hbA : ¬ (fun q : Nat => s.heap.size ≤ q) b := Nat.not_le.mpr hbl
  obtain ⟨b6, gm', hm6, hx6⟩ := hSim gh gs gr gm (xs (x4 + (1 : Int32)).toNatClampNeg) hrel
  refine lv_aload_n hx hb dL_law_1526 rfl (lv_at hl 3 rfl) ?_
  refine lv_aload_n hx hb dL_law_1527 rfl (lv_at hl 4 rfl) ?_
  refine lv_iload hx hb dL_law_1528 (lv_at hl 0 rfl) ?_
  refine lv_iconst (v := 1) hx hb dL_law_1530 (by decide) ?_
  refine lv_iadd hx hb dL_law_1531 ?_
  refine va_sld hx hb hX hbl hbA hS (lw_in hi 1 (by omega) hL) dL_law_1532 ?_
  refine lv_aload_n hx hb dL_law_1533 rfl (lv_at hl 1 rfl) ?_
  refine tw_S (As := [.ref b0, .int (xs (x4 + (1 : Int32)).toNatClampNeg), .ref o]) (rest := []) (w1 := []) (w2 := wX5 qm cI gm) (wsd := fun u : St × St × St × (Nat → Int64) => wW o cJ u.2.2.2 b0 qh qs qr cI u.1 u.2.1 u.2.2.1 qm gm) ⟨hx, hb, hml, hown, hts⟩ (c_L_copyOf l hfl dC dI cI cJ o f b0 qh qs qr gh gs gr (xs (x4 + (1 : Int32)).toNatClampNeg) (fun (r : Int32) (gh' gs' gr' : St) => gm' 0 0 = 0 ∧ r = b6 ∧ Rel gh' gs' gr' gm') (fun k : Int32 => gm' 0 0 = k ∧ ¬ k = 0 ∧ Rel gh gs gr gm') hx6 _) (vx_cwSW 3 hts gL_law_L_copyOf rfl rfl rfl (by decide +kernel) ⟨Nat.le_of_ble_eq_true rfl, Nat.le_of_ble_eq_true rfl⟩) hP hD hS hA hK hN hXS hXH rfl (fun u => rfl) rfl rfl hl.1 (Nat.le_of_ble_eq_true rfl) ⟨by show _ ≤ 601024; omega, by show _ ≤ 7293034; omega⟩ dL_law_1534 (fun k5 u H locs hk5 hP hD hS => ?_)
  obtain ⟨uh, us, ur, uf⟩ := u
  refine lv_istore (lv' := [(5, .int k5), (4, .int x4), (3, .ref o), (2, .ref (qm 0)), (1, .ref b0), (0, .ref b)]) hx hb dL_law_1537 hl (by decide) rfl (fun ls hl => ?_)
  refine lv_aload_n hx hb dL_law_1539 rfl (lv_at hl 3 rfl) ?_
  refine lv_aload_n hx hb dL_law_1540 rfl (lv_at hl 5 rfl) ?_
  refine lv_iload hx hb dL_law_1541 (lv_at hl 1 rfl) ?_
  refine lv_iconst (v := 1) hx hb dL_law_1543 (by decide) ?_
  refine lv_iadd hx hb dL_law_1544 ?_
  refine va_sld hx hb hX hbl hbA hS (lw_in hi 1 (by omega) hL) dL_law_1545 ?_
  refine wr_Vi (As := [.int (xs (x4 + (1 : Int32)).toNatClampNeg)]) (rest := []) (w1 := wL o cJ uf b0 qh qs qr cI uh us ur) (w2 := []) (ws1 := wW o cJ uf b0 qh qs qr cI uh us ur qm gm') ⟨hx, hb, hml, hown, hts⟩ (c_X5_copyOf l dC dI cI qm gm (xs (x4 + (1 : Int32)).toNatClampNeg) b6 gm' hm6 _) (cwV 1 hts gL_law_X5_copyOf rfl rfl rfl (by decide +kernel) ⟨Nat.le_of_ble_eq_true rfl, Nat.le_of_ble_eq_true rfl⟩) hP hD hS hA (hK.sub [0] rfl) hN (wW_M o cJ uf b0 qh qs qr cI uh us ur qm gm) (wW_M o cJ uf b0 qh qs qr cI uh us ur qm gm').symm rfl rfl rfl rfl hl.1 (Nat.le_of_ble_eq_true rfl) ⟨by show _ ≤ 601024; omega, by show _ ≤ 7293034; omega⟩ dL_law_1546 (fun H locs hP hD hS => ?_)
  refine lv_istore (lv' := [(6, .int b6), (5, .int k5), (4, .int x4), (3, .ref o), (2, .ref (qm 0)), (1, .ref b0), (0, .ref b)]) hx hb dL_law_1549 hl (by decide) rfl (fun ls hl => ?_)
  refine lv_aload_n hx hb dL_law_1551 rfl (lv_at hl 4 rfl) ?_
  refine ro_V (As := []) (rest := []) ⟨hx, hb, hml, hown, hts⟩ (c_X5_thrown l dC dI cI qm gm' (gm' 0 0) rfl) (cwV 0 hts gL_law_X5_thrown rfl rfl rfl (by decide +kernel) ⟨Nat.le_of_ble_eq_true rfl, Nat.le_of_ble_eq_true rfl⟩) (tWm hP) (hK.sub [0] rfl) hN rfl rfl rfl rfl hl.1 (Nat.le_of_ble_eq_true rfl) ⟨by show _ ≤ 601024; omega, by show _ ≤ 7293034; omega⟩ dL_law_1552 ?_
  refine lv_iload hx hb dL_law_1555 (lv_at hl 1 rfl) ?_
  refine lv_icmp_eq (tgt := 1562) hx hb dL_law_1557 (by decide) (fun ceq => ?_) (fun ceq => ?_)
  · refine lv_iload hx hb dL_law_1562 (lv_at hl 1 rfl) ?_
    refine lv_if_ne (tgt := 1579) hx hb dL_law_1564 (by decide) (fun c5 => ?_) (fun c5 => ?_)
    · rcases hk5 with ⟨hk0, -⟩ | ⟨⟨-, -, hrel6⟩, hu⟩
      · exact absurd hk0 c5
      · cases hu
        refine lv_goto (tgt := 1750) hx hb dL_law_1579 (by decide) ?_
        refine W.widen (k := k + 8) (n := n + 48) (by omega) (by omega) ?_
        exact kk _ _ _ gh gs gr gm' f hrel6 hP hD hS (lv_sub hl [2, 3, 4, 5, 6] rfl)
    · rcases hk5 with ⟨hk0, r6, hout, ht0, hr6, hrel6⟩ | ⟨⟨-, hne, -⟩, hu⟩
      · refine lv_aload_n hx hb dL_law_1567 rfl (lv_at hl 3 rfl) ?_
        refine lv_iconst (v := 0) hx hb dL_law_1568 (by decide) ?_
        refine va_lald hx hb hK hP 0 1 rfl rfl vp01 dL_law_1569 ?_
        refine lv_iload hx hb dL_law_1570 (lv_at hl 0 rfl) ?_
        refine lv_i2l hx hb dL_law_1572 rfl ?_
        refine W.lcmp hx hb dL_law_1573 ?_
        refine lv_if_eq (tgt := 1579) hx hb dL_law_1574 (by decide) (fun c6 => ?_) (fun c6 => ?_)
        · refine lv_goto (tgt := 1750) hx hb dL_law_1579 (by decide) ?_
          refine W.widen (k := k + 8) (n := n + 48) (by omega) (by omega) ?_
          exact kk _ _ _ uh us ur gm' uf hrel6 hP hD hS (lv_sub hl [2, 3, 4, 5, 6] rfl)
        · exact absurd (by rw [show uf (0 : Int32).toNatClampNeg = r6.toInt64 from hout, hr6]; exact lw_cmp _) c6
      · exact absurd c5 hne
  · rcases hk5 with ⟨hk0, r6, hout, ht0, hr6, hrel6⟩ | ⟨⟨he6, -, -⟩, hu⟩
    · exact absurd (ht0.trans hk0.symm) ceq
    · exact absurd he6 ceq
def Sim_ruling (Rel : St → St → St → St → Prop) : Prop := ∀ (gh gs gr gm : St) (a1 : Int32), Rel gh gs gr gm → ∃ (b6 : Int32) (gm' : St), P_X5_ruling gm a1 b6 gm' ∧ P_X4_ruling gh gs gr a1 (fun (r : Int32) (gh' gs' gr' : St) => gm' 0 0 = 0 ∧ r = b6 ∧ Rel gh' gs' gr' gm') (fun E : String => (E = E_i ∧ (gm' 0 0 = 1 ∧ ¬ (1 : Int32) = 0 ∧ Rel gh gs gr gm')) ∨ (E = E_s ∧ (gm' 0 0 = 2 ∧ ¬ (2 : Int32) = 0 ∧ Rel gh gs gr gm')))
set_option maxRecDepth 100000 in
set_option maxHeartbeats 4000000 in
theorem law_c23 {p : Program} {l : Launch} {e : Env} {s : State} {m : MethodId} {below : List Frame} {meth : Method} {c : Code} {b L : Nat} {xs : Nat → Int32} {dC : Nat → ClassId} {dI : Nat → Nat → Nat} {cI cJ : ClassId} {o b0 : Nat} {qh qs qr qm : Nat → Nat} {Rel : St → St → St → St → Prop} {x4 : Int32} {k n : Nat} (hE : lw_Env p l s m c b L xs dC dI cI cJ) (hSim : Sim_ruling Rel) {j : Nat} (hi : x4 = nI j) (hj : j + 8 ≤ L) (hk : k + 8 ≤ 601024) (hn : n + 48 ≤ 7293034) (kk : law_at p l e s m below meth c b dC dI cI cJ o b0 qh qs qr qm Rel 1750 x4 (k + 8) (n + 48)) : law_at p l e s m below meth c b dC dI cI cJ o b0 qh qs qr qm Rel 1582 x4 k n := by
  intro H locs ls gh gs gr gm f hrel hP hD hS hl
  obtain ⟨hx, hb, hml, hown, hts, hX, hbl, hK, hN, hXS, hXH, hfl, hL⟩ := id hE
  have hA : ∀ q : Nat, s.heap.size ≤ q → (fun q : Nat => s.heap.size ≤ q) q := fun _ h => h
  have hbA : ¬ (fun q : Nat => s.heap.size ≤ q) b := Nat.not_le.mpr hbl
  obtain ⟨b6, gm', hm6, hx6⟩ := hSim gh gs gr gm (xs (x4 + (1 : Int32)).toNatClampNeg) hrel
  refine lv_aload_n hx hb dL_law_1582 rfl (lv_at hl 3 rfl) ?_
  refine lv_aload_n hx hb dL_law_1583 rfl (lv_at hl 4 rfl) ?_
  refine lv_iload hx hb dL_law_1584 (lv_at hl 0 rfl) ?_
  refine lv_iconst (v := 1) hx hb dL_law_1586 (by decide) ?_
  refine lv_iadd hx hb dL_law_1587 ?_
  refine va_sld hx hb hX hbl hbA hS (lw_in hi 1 (by omega) hL) dL_law_1588 ?_
  refine lv_aload_n hx hb dL_law_1589 rfl (lv_at hl 1 rfl) ?_
  refine tw_S (As := [.ref b0, .int (xs (x4 + (1 : Int32)).toNatClampNeg), .ref o]) (rest := []) (w1 := []) (w2 := wX5 qm cI gm) (wsd := fun u : St × St × St × (Nat → Int64) => wW o cJ u.2.2.2 b0 qh qs qr cI u.1 u.2.1 u.2.2.1 qm gm) ⟨hx, hb, hml, hown, hts⟩ (c_L_ruling l hfl dC dI cI cJ o f b0 qh qs qr gh gs gr (xs (x4 + (1 : Int32)).toNatClampNeg) (fun (r : Int32) (gh' gs' gr' : St) => gm' 0 0 = 0 ∧ r = b6 ∧ Rel gh' gs' gr' gm') (fun k : Int32 => gm' 0 0 = k ∧ ¬ k = 0 ∧ Rel gh gs gr gm') hx6 _) (vx_cwSW 3 hts gL_law_L_ruling rfl rfl rfl (by decide +kernel) ⟨Nat.le_of_ble_eq_true rfl, Nat.le_of_ble_eq_true rfl⟩) hP hD hS hA hK hN hXS hXH rfl (fun u => rfl) rfl rfl hl.1 (Nat.le_of_ble_eq_true rfl) ⟨by show _ ≤ 601024; omega, by show _ ≤ 7293034; omega⟩ dL_law_1590 (fun k5 u H locs hk5 hP hD hS => ?_)
  obtain ⟨uh, us, ur, uf⟩ := u
  refine lv_istore (lv' := [(5, .int k5), (4, .int x4), (3, .ref o), (2, .ref (qm 0)), (1, .ref b0), (0, .ref b)]) hx hb dL_law_1593 hl (by decide) rfl (fun ls hl => ?_)
  refine lv_aload_n hx hb dL_law_1595 rfl (lv_at hl 3 rfl) ?_
  refine lv_aload_n hx hb dL_law_1596 rfl (lv_at hl 5 rfl) ?_
  refine lv_iload hx hb dL_law_1597 (lv_at hl 1 rfl) ?_
  refine lv_iconst (v := 1) hx hb dL_law_1599 (by decide) ?_
  refine lv_iadd hx hb dL_law_1600 ?_
  refine va_sld hx hb hX hbl hbA hS (lw_in hi 1 (by omega) hL) dL_law_1601 ?_
  refine wr_Vi (As := [.int (xs (x4 + (1 : Int32)).toNatClampNeg)]) (rest := []) (w1 := wL o cJ uf b0 qh qs qr cI uh us ur) (w2 := []) (ws1 := wW o cJ uf b0 qh qs qr cI uh us ur qm gm') ⟨hx, hb, hml, hown, hts⟩ (c_X5_ruling l dC dI cI qm gm (xs (x4 + (1 : Int32)).toNatClampNeg) b6 gm' hm6 _) (cwV 1 hts gL_law_X5_ruling rfl rfl rfl (by decide +kernel) ⟨Nat.le_of_ble_eq_true rfl, Nat.le_of_ble_eq_true rfl⟩) hP hD hS hA (hK.sub [0] rfl) hN (wW_M o cJ uf b0 qh qs qr cI uh us ur qm gm) (wW_M o cJ uf b0 qh qs qr cI uh us ur qm gm').symm rfl rfl rfl rfl hl.1 (Nat.le_of_ble_eq_true rfl) ⟨by show _ ≤ 601024; omega, by show _ ≤ 7293034; omega⟩ dL_law_1602 (fun H locs hP hD hS => ?_)
  refine lv_istore (lv' := [(6, .int b6), (5, .int k5), (4, .int x4), (3, .ref o), (2, .ref (qm 0)), (1, .ref b0), (0, .ref b)]) hx hb dL_law_1605 hl (by decide) rfl (fun ls hl => ?_)
  refine lv_aload_n hx hb dL_law_1607 rfl (lv_at hl 4 rfl) ?_
  refine ro_V (As := []) (rest := []) ⟨hx, hb, hml, hown, hts⟩ (c_X5_thrown l dC dI cI qm gm' (gm' 0 0) rfl) (cwV 0 hts gL_law_X5_thrown rfl rfl rfl (by decide +kernel) ⟨Nat.le_of_ble_eq_true rfl, Nat.le_of_ble_eq_true rfl⟩) (tWm hP) (hK.sub [0] rfl) hN rfl rfl rfl rfl hl.1 (Nat.le_of_ble_eq_true rfl) ⟨by show _ ≤ 601024; omega, by show _ ≤ 7293034; omega⟩ dL_law_1608 ?_
  refine lv_iload hx hb dL_law_1611 (lv_at hl 1 rfl) ?_
  refine lv_icmp_eq (tgt := 1618) hx hb dL_law_1613 (by decide) (fun ceq => ?_) (fun ceq => ?_)
  · refine lv_iload hx hb dL_law_1618 (lv_at hl 1 rfl) ?_
    refine lv_if_ne (tgt := 1635) hx hb dL_law_1620 (by decide) (fun c5 => ?_) (fun c5 => ?_)
    · rcases hk5 with ⟨hk0, -⟩ | ⟨⟨-, -, hrel6⟩, hu⟩
      · exact absurd hk0 c5
      · cases hu
        refine lv_goto (tgt := 1750) hx hb dL_law_1635 (by decide) ?_
        refine W.widen (k := k + 8) (n := n + 48) (by omega) (by omega) ?_
        exact kk _ _ _ gh gs gr gm' f hrel6 hP hD hS (lv_sub hl [2, 3, 4, 5, 6] rfl)
    · rcases hk5 with ⟨hk0, r6, hout, ht0, hr6, hrel6⟩ | ⟨⟨-, hne, -⟩, hu⟩
      · refine lv_aload_n hx hb dL_law_1623 rfl (lv_at hl 3 rfl) ?_
        refine lv_iconst (v := 0) hx hb dL_law_1624 (by decide) ?_
        refine va_lald hx hb hK hP 0 1 rfl rfl vp01 dL_law_1625 ?_
        refine lv_iload hx hb dL_law_1626 (lv_at hl 0 rfl) ?_
        refine lv_i2l hx hb dL_law_1628 rfl ?_
        refine W.lcmp hx hb dL_law_1629 ?_
        refine lv_if_eq (tgt := 1635) hx hb dL_law_1630 (by decide) (fun c6 => ?_) (fun c6 => ?_)
        · refine lv_goto (tgt := 1750) hx hb dL_law_1635 (by decide) ?_
          refine W.widen (k := k + 8) (n := n + 48) (by omega) (by omega) ?_
          exact kk _ _ _ uh us ur gm' uf hrel6 hP hD hS (lv_sub hl [2, 3, 4, 5, 6] rfl)
        · exact absurd (by rw [show uf (0 : Int32).toNatClampNeg = r6.toInt64 from hout, hr6]; exact lw_cmp _) c6
      · exact absurd c5 hne
  · rcases hk5 with ⟨hk0, r6, hout, ht0, hr6, hrel6⟩ | ⟨⟨he6, -, -⟩, hu⟩
    · exact absurd (ht0.trans hk0.symm) ceq
    · exact absurd he6 ceq
def Sim_rulingFromBelow (Rel : St → St → St → St → Prop) : Prop := ∀ (gh gs gr gm : St) (a1 : Int32), Rel gh gs gr gm → ∃ (b6 : Int32) (gm' : St), P_X5_rulingFromBelow gm a1 b6 gm' ∧ P_X4_rulingFromBelow gh gs gr a1 (fun (r : Int32) (gh' gs' gr' : St) => gm' 0 0 = 0 ∧ r = b6 ∧ Rel gh' gs' gr' gm') (fun E : String => (E = E_i ∧ (gm' 0 0 = 1 ∧ ¬ (1 : Int32) = 0 ∧ Rel gh gs gr gm')) ∨ (E = E_s ∧ (gm' 0 0 = 2 ∧ ¬ (2 : Int32) = 0 ∧ Rel gh gs gr gm')))
set_option maxRecDepth 100000 in
set_option maxHeartbeats 4000000 in
theorem law_c24 {p : Program} {l : Launch} {e : Env} {s : State} {m : MethodId} {below : List Frame} {meth : Method} {c : Code} {b L : Nat} {xs : Nat → Int32} {dC : Nat → ClassId} {dI : Nat → Nat → Nat} {cI cJ : ClassId} {o b0 : Nat} {qh qs qr qm : Nat → Nat} {Rel : St → St → St → St → Prop} {x4 : Int32} {k n : Nat} (hE : lw_Env p l s m c b L xs dC dI cI cJ) (hSim : Sim_rulingFromBelow Rel) {j : Nat} (hi : x4 = nI j) (hj : j + 8 ≤ L) (hk : k + 8 ≤ 601024) (hn : n + 48 ≤ 7293034) (kk : law_at p l e s m below meth c b dC dI cI cJ o b0 qh qs qr qm Rel 1750 x4 (k + 8) (n + 48)) : law_at p l e s m below meth c b dC dI cI cJ o b0 qh qs qr qm Rel 1638 x4 k n := by
  intro H locs ls gh gs gr gm f hrel hP hD hS hl
  obtain ⟨hx, hb, hml, hown, hts, hX, hbl, hK, hN, hXS, hXH, hfl, hL⟩ := id hE
  have hA : ∀ q : Nat, s.heap.size ≤ q → (fun q : Nat => s.heap.size ≤ q) q := fun _ h => h
  have hbA : ¬ (fun q : Nat => s.heap.size ≤ q) b := Nat.not_le.mpr hbl
  obtain ⟨b6, gm', hm6, hx6⟩ := hSim gh gs gr gm (xs (x4 + (1 : Int32)).toNatClampNeg) hrel
  refine lv_aload_n hx hb dL_law_1638 rfl (lv_at hl 3 rfl) ?_
  refine lv_aload_n hx hb dL_law_1639 rfl (lv_at hl 4 rfl) ?_
  refine lv_iload hx hb dL_law_1640 (lv_at hl 0 rfl) ?_
  refine lv_iconst (v := 1) hx hb dL_law_1642 (by decide) ?_
  refine lv_iadd hx hb dL_law_1643 ?_
  refine va_sld hx hb hX hbl hbA hS (lw_in hi 1 (by omega) hL) dL_law_1644 ?_
  refine lv_aload_n hx hb dL_law_1645 rfl (lv_at hl 1 rfl) ?_
  refine tw_S (As := [.ref b0, .int (xs (x4 + (1 : Int32)).toNatClampNeg), .ref o]) (rest := []) (w1 := []) (w2 := wX5 qm cI gm) (wsd := fun u : St × St × St × (Nat → Int64) => wW o cJ u.2.2.2 b0 qh qs qr cI u.1 u.2.1 u.2.2.1 qm gm) ⟨hx, hb, hml, hown, hts⟩ (c_L_rulingFromBelow l hfl dC dI cI cJ o f b0 qh qs qr gh gs gr (xs (x4 + (1 : Int32)).toNatClampNeg) (fun (r : Int32) (gh' gs' gr' : St) => gm' 0 0 = 0 ∧ r = b6 ∧ Rel gh' gs' gr' gm') (fun k : Int32 => gm' 0 0 = k ∧ ¬ k = 0 ∧ Rel gh gs gr gm') hx6 _) (vx_cwSW 3 hts gL_law_L_rulingFromBelow rfl rfl rfl (by decide +kernel) ⟨Nat.le_of_ble_eq_true rfl, Nat.le_of_ble_eq_true rfl⟩) hP hD hS hA hK hN hXS hXH rfl (fun u => rfl) rfl rfl hl.1 (Nat.le_of_ble_eq_true rfl) ⟨by show _ ≤ 601024; omega, by show _ ≤ 7293034; omega⟩ dL_law_1646 (fun k5 u H locs hk5 hP hD hS => ?_)
  obtain ⟨uh, us, ur, uf⟩ := u
  refine lv_istore (lv' := [(5, .int k5), (4, .int x4), (3, .ref o), (2, .ref (qm 0)), (1, .ref b0), (0, .ref b)]) hx hb dL_law_1649 hl (by decide) rfl (fun ls hl => ?_)
  refine lv_aload_n hx hb dL_law_1651 rfl (lv_at hl 3 rfl) ?_
  refine lv_aload_n hx hb dL_law_1652 rfl (lv_at hl 5 rfl) ?_
  refine lv_iload hx hb dL_law_1653 (lv_at hl 1 rfl) ?_
  refine lv_iconst (v := 1) hx hb dL_law_1655 (by decide) ?_
  refine lv_iadd hx hb dL_law_1656 ?_
  refine va_sld hx hb hX hbl hbA hS (lw_in hi 1 (by omega) hL) dL_law_1657 ?_
  refine wr_Vi (As := [.int (xs (x4 + (1 : Int32)).toNatClampNeg)]) (rest := []) (w1 := wL o cJ uf b0 qh qs qr cI uh us ur) (w2 := []) (ws1 := wW o cJ uf b0 qh qs qr cI uh us ur qm gm') ⟨hx, hb, hml, hown, hts⟩ (c_X5_rulingFromBelow l dC dI cI qm gm (xs (x4 + (1 : Int32)).toNatClampNeg) b6 gm' hm6 _) (cwV 1 hts gL_law_X5_rulingFromBelow rfl rfl rfl (by decide +kernel) ⟨Nat.le_of_ble_eq_true rfl, Nat.le_of_ble_eq_true rfl⟩) hP hD hS hA (hK.sub [0] rfl) hN (wW_M o cJ uf b0 qh qs qr cI uh us ur qm gm) (wW_M o cJ uf b0 qh qs qr cI uh us ur qm gm').symm rfl rfl rfl rfl hl.1 (Nat.le_of_ble_eq_true rfl) ⟨by show _ ≤ 601024; omega, by show _ ≤ 7293034; omega⟩ dL_law_1658 (fun H locs hP hD hS => ?_)
  refine lv_istore (lv' := [(6, .int b6), (5, .int k5), (4, .int x4), (3, .ref o), (2, .ref (qm 0)), (1, .ref b0), (0, .ref b)]) hx hb dL_law_1661 hl (by decide) rfl (fun ls hl => ?_)
  refine lv_aload_n hx hb dL_law_1663 rfl (lv_at hl 4 rfl) ?_
  refine ro_V (As := []) (rest := []) ⟨hx, hb, hml, hown, hts⟩ (c_X5_thrown l dC dI cI qm gm' (gm' 0 0) rfl) (cwV 0 hts gL_law_X5_thrown rfl rfl rfl (by decide +kernel) ⟨Nat.le_of_ble_eq_true rfl, Nat.le_of_ble_eq_true rfl⟩) (tWm hP) (hK.sub [0] rfl) hN rfl rfl rfl rfl hl.1 (Nat.le_of_ble_eq_true rfl) ⟨by show _ ≤ 601024; omega, by show _ ≤ 7293034; omega⟩ dL_law_1664 ?_
  refine lv_iload hx hb dL_law_1667 (lv_at hl 1 rfl) ?_
  refine lv_icmp_eq (tgt := 1674) hx hb dL_law_1669 (by decide) (fun ceq => ?_) (fun ceq => ?_)
  · refine lv_iload hx hb dL_law_1674 (lv_at hl 1 rfl) ?_
    refine lv_if_ne (tgt := 1691) hx hb dL_law_1676 (by decide) (fun c5 => ?_) (fun c5 => ?_)
    · rcases hk5 with ⟨hk0, -⟩ | ⟨⟨-, -, hrel6⟩, hu⟩
      · exact absurd hk0 c5
      · cases hu
        refine lv_goto (tgt := 1750) hx hb dL_law_1691 (by decide) ?_
        refine W.widen (k := k + 8) (n := n + 48) (by omega) (by omega) ?_
        exact kk _ _ _ gh gs gr gm' f hrel6 hP hD hS (lv_sub hl [2, 3, 4, 5, 6] rfl)
    · rcases hk5 with ⟨hk0, r6, hout, ht0, hr6, hrel6⟩ | ⟨⟨-, hne, -⟩, hu⟩
      · refine lv_aload_n hx hb dL_law_1679 rfl (lv_at hl 3 rfl) ?_
        refine lv_iconst (v := 0) hx hb dL_law_1680 (by decide) ?_
        refine va_lald hx hb hK hP 0 1 rfl rfl vp01 dL_law_1681 ?_
        refine lv_iload hx hb dL_law_1682 (lv_at hl 0 rfl) ?_
        refine lv_i2l hx hb dL_law_1684 rfl ?_
        refine W.lcmp hx hb dL_law_1685 ?_
        refine lv_if_eq (tgt := 1691) hx hb dL_law_1686 (by decide) (fun c6 => ?_) (fun c6 => ?_)
        · refine lv_goto (tgt := 1750) hx hb dL_law_1691 (by decide) ?_
          refine W.widen (k := k + 8) (n := n + 48) (by omega) (by omega) ?_
          exact kk _ _ _ uh us ur gm' uf hrel6 hP hD hS (lv_sub hl [2, 3, 4, 5, 6] rfl)
        · exact absurd (by rw [show uf (0 : Int32).toNatClampNeg = r6.toInt64 from hout, hr6]; exact lw_cmp _) c6
      · exact absurd c5 hne
  · rcases hk5 with ⟨hk0, r6, hout, ht0, hr6, hrel6⟩ | ⟨⟨he6, -, -⟩, hu⟩
    · exact absurd (ht0.trans hk0.symm) ceq
    · exact absurd he6 ceq
def Sim_depth (Rel : St → St → St → St → Prop) : Prop := ∀ (gh gs gr gm : St) (a1 : Int32), Rel gh gs gr gm → ∃ (b6 : Int32) (gm' : St), P_X5_depth gm a1 b6 gm' ∧ P_X4_depth gh gs gr a1 (fun (r : Int32) (gh' gs' gr' : St) => gm' 0 0 = 0 ∧ r = b6 ∧ Rel gh' gs' gr' gm') (fun E : String => (E = E_i ∧ (gm' 0 0 = 1 ∧ ¬ (1 : Int32) = 0 ∧ Rel gh gs gr gm')))
set_option maxRecDepth 100000 in
set_option maxHeartbeats 4000000 in
theorem law_c25 {p : Program} {l : Launch} {e : Env} {s : State} {m : MethodId} {below : List Frame} {meth : Method} {c : Code} {b L : Nat} {xs : Nat → Int32} {dC : Nat → ClassId} {dI : Nat → Nat → Nat} {cI cJ : ClassId} {o b0 : Nat} {qh qs qr qm : Nat → Nat} {Rel : St → St → St → St → Prop} {x4 : Int32} {k n : Nat} (hE : lw_Env p l s m c b L xs dC dI cI cJ) (hSim : Sim_depth Rel) {j : Nat} (hi : x4 = nI j) (hj : j + 8 ≤ L) (hk : k + 8 ≤ 601024) (hn : n + 48 ≤ 7293034) (kk : law_at p l e s m below meth c b dC dI cI cJ o b0 qh qs qr qm Rel 1750 x4 (k + 8) (n + 48)) : law_at p l e s m below meth c b dC dI cI cJ o b0 qh qs qr qm Rel 1694 x4 k n := by
  intro H locs ls gh gs gr gm f hrel hP hD hS hl
  obtain ⟨hx, hb, hml, hown, hts, hX, hbl, hK, hN, hXS, hXH, hfl, hL⟩ := id hE
  have hA : ∀ q : Nat, s.heap.size ≤ q → (fun q : Nat => s.heap.size ≤ q) q := fun _ h => h
  have hbA : ¬ (fun q : Nat => s.heap.size ≤ q) b := Nat.not_le.mpr hbl
  obtain ⟨b6, gm', hm6, hx6⟩ := hSim gh gs gr gm (xs (x4 + (1 : Int32)).toNatClampNeg) hrel
  refine lv_aload_n hx hb dL_law_1694 rfl (lv_at hl 3 rfl) ?_
  refine lv_aload_n hx hb dL_law_1695 rfl (lv_at hl 4 rfl) ?_
  refine lv_iload hx hb dL_law_1696 (lv_at hl 0 rfl) ?_
  refine lv_iconst (v := 1) hx hb dL_law_1698 (by decide) ?_
  refine lv_iadd hx hb dL_law_1699 ?_
  refine va_sld hx hb hX hbl hbA hS (lw_in hi 1 (by omega) hL) dL_law_1700 ?_
  refine lv_aload_n hx hb dL_law_1701 rfl (lv_at hl 1 rfl) ?_
  refine tw_S (As := [.ref b0, .int (xs (x4 + (1 : Int32)).toNatClampNeg), .ref o]) (rest := []) (w1 := []) (w2 := wX5 qm cI gm) (wsd := fun u : St × St × St × (Nat → Int64) => wW o cJ u.2.2.2 b0 qh qs qr cI u.1 u.2.1 u.2.2.1 qm gm) ⟨hx, hb, hml, hown, hts⟩ (c_L_depth l hfl dC dI cI cJ o f b0 qh qs qr gh gs gr (xs (x4 + (1 : Int32)).toNatClampNeg) (fun (r : Int32) (gh' gs' gr' : St) => gm' 0 0 = 0 ∧ r = b6 ∧ Rel gh' gs' gr' gm') (fun k : Int32 => gm' 0 0 = k ∧ ¬ k = 0 ∧ Rel gh gs gr gm') hx6 _) (vx_cwSW 3 hts gL_law_L_depth rfl rfl rfl (by decide +kernel) ⟨Nat.le_of_ble_eq_true rfl, Nat.le_of_ble_eq_true rfl⟩) hP hD hS hA hK hN hXS hXH rfl (fun u => rfl) rfl rfl hl.1 (Nat.le_of_ble_eq_true rfl) ⟨by show _ ≤ 601024; omega, by show _ ≤ 7293034; omega⟩ dL_law_1702 (fun k5 u H locs hk5 hP hD hS => ?_)
  obtain ⟨uh, us, ur, uf⟩ := u
  refine lv_istore (lv' := [(5, .int k5), (4, .int x4), (3, .ref o), (2, .ref (qm 0)), (1, .ref b0), (0, .ref b)]) hx hb dL_law_1705 hl (by decide) rfl (fun ls hl => ?_)
  refine lv_aload_n hx hb dL_law_1707 rfl (lv_at hl 3 rfl) ?_
  refine lv_aload_n hx hb dL_law_1708 rfl (lv_at hl 5 rfl) ?_
  refine lv_iload hx hb dL_law_1709 (lv_at hl 1 rfl) ?_
  refine lv_iconst (v := 1) hx hb dL_law_1711 (by decide) ?_
  refine lv_iadd hx hb dL_law_1712 ?_
  refine va_sld hx hb hX hbl hbA hS (lw_in hi 1 (by omega) hL) dL_law_1713 ?_
  refine wr_Vi (As := [.int (xs (x4 + (1 : Int32)).toNatClampNeg)]) (rest := []) (w1 := wL o cJ uf b0 qh qs qr cI uh us ur) (w2 := []) (ws1 := wW o cJ uf b0 qh qs qr cI uh us ur qm gm') ⟨hx, hb, hml, hown, hts⟩ (c_X5_depth l dC dI cI qm gm (xs (x4 + (1 : Int32)).toNatClampNeg) b6 gm' hm6 _) (cwV 1 hts gL_law_X5_depth rfl rfl rfl (by decide +kernel) ⟨Nat.le_of_ble_eq_true rfl, Nat.le_of_ble_eq_true rfl⟩) hP hD hS hA (hK.sub [0] rfl) hN (wW_M o cJ uf b0 qh qs qr cI uh us ur qm gm) (wW_M o cJ uf b0 qh qs qr cI uh us ur qm gm').symm rfl rfl rfl rfl hl.1 (Nat.le_of_ble_eq_true rfl) ⟨by show _ ≤ 601024; omega, by show _ ≤ 7293034; omega⟩ dL_law_1714 (fun H locs hP hD hS => ?_)
  refine lv_istore (lv' := [(6, .int b6), (5, .int k5), (4, .int x4), (3, .ref o), (2, .ref (qm 0)), (1, .ref b0), (0, .ref b)]) hx hb dL_law_1717 hl (by decide) rfl (fun ls hl => ?_)
  refine lv_aload_n hx hb dL_law_1719 rfl (lv_at hl 4 rfl) ?_
  refine ro_V (As := []) (rest := []) ⟨hx, hb, hml, hown, hts⟩ (c_X5_thrown l dC dI cI qm gm' (gm' 0 0) rfl) (cwV 0 hts gL_law_X5_thrown rfl rfl rfl (by decide +kernel) ⟨Nat.le_of_ble_eq_true rfl, Nat.le_of_ble_eq_true rfl⟩) (tWm hP) (hK.sub [0] rfl) hN rfl rfl rfl rfl hl.1 (Nat.le_of_ble_eq_true rfl) ⟨by show _ ≤ 601024; omega, by show _ ≤ 7293034; omega⟩ dL_law_1720 ?_
  refine lv_iload hx hb dL_law_1723 (lv_at hl 1 rfl) ?_
  refine lv_icmp_eq (tgt := 1730) hx hb dL_law_1725 (by decide) (fun ceq => ?_) (fun ceq => ?_)
  · refine lv_iload hx hb dL_law_1730 (lv_at hl 1 rfl) ?_
    refine lv_if_ne (tgt := 1747) hx hb dL_law_1732 (by decide) (fun c5 => ?_) (fun c5 => ?_)
    · rcases hk5 with ⟨hk0, -⟩ | ⟨⟨-, -, hrel6⟩, hu⟩
      · exact absurd hk0 c5
      · cases hu
        refine lv_goto (tgt := 1750) hx hb dL_law_1747 (by decide) ?_
        refine W.widen (k := k + 8) (n := n + 48) (by omega) (by omega) ?_
        exact kk _ _ _ gh gs gr gm' f hrel6 hP hD hS (lv_sub hl [2, 3, 4, 5, 6] rfl)
    · rcases hk5 with ⟨hk0, r6, hout, ht0, hr6, hrel6⟩ | ⟨⟨-, hne, -⟩, hu⟩
      · refine lv_aload_n hx hb dL_law_1735 rfl (lv_at hl 3 rfl) ?_
        refine lv_iconst (v := 0) hx hb dL_law_1736 (by decide) ?_
        refine va_lald hx hb hK hP 0 1 rfl rfl vp01 dL_law_1737 ?_
        refine lv_iload hx hb dL_law_1738 (lv_at hl 0 rfl) ?_
        refine lv_i2l hx hb dL_law_1740 rfl ?_
        refine W.lcmp hx hb dL_law_1741 ?_
        refine lv_if_eq (tgt := 1747) hx hb dL_law_1742 (by decide) (fun c6 => ?_) (fun c6 => ?_)
        · refine lv_goto (tgt := 1750) hx hb dL_law_1747 (by decide) ?_
          refine W.widen (k := k + 8) (n := n + 48) (by omega) (by omega) ?_
          exact kk _ _ _ uh us ur gm' uf hrel6 hP hD hS (lv_sub hl [2, 3, 4, 5, 6] rfl)
        · exact absurd (by rw [show uf (0 : Int32).toNatClampNeg = r6.toInt64 from hout, hr6]; exact lw_cmp _) c6
      · exact absurd c5 hne
  · rcases hk5 with ⟨hk0, r6, hout, ht0, hr6, hrel6⟩ | ⟨⟨he6, -, -⟩, hu⟩
    · exact absurd (ht0.trans hk0.symm) ceq
    · exact absurd he6 ceq
