/-! THE LAW'S OWN CALLS: each calls the class and catches what it throws -/
theorem vp01 : vp_in (0 : Int32) 1 := vp_in_nI (n := 0) (N := 1) (by decide) (by decide)
def wL (o : Nat) (cJ : ClassId) (f : Nat → Int64) (b0 : Nat) (qh qs qr : Nat → Nat) (cI : ClassId) (gh gs gr : St) : va_W := (o, .inl (cJ, 1, .inr (.inl f))) :: wX4 b0 qh qs qr cI gh gs gr
theorem wL_eq (o : Nat) (cJ : ClassId) (f : Nat → Int64) (b0 : Nat) (qh qs qr : Nat → Nat) (cI : ClassId) (gh gs gr : St) : wL o cJ f b0 qh qs qr cI gh gs gr = [(o, .inl (cJ, 1, .inr (.inl f)))] ++ (wX4 b0 qh qs qr cI gh gs gr ++ []) := by
  rw [wL, List.append_nil]
  rfl
section TXV
variable {p : Program} {l : Launch} {e : Env} {R : Room} {s : State} {m : MethodId} {args : Array Value} {below : List Frame} {meth : Method} {c : Code} {H : Heap} {locs : List Loc} {cells slots : Nat} {Q : State → Prop}
variable {pc : Nat} {ls : Array Slot} {rest st0 : List Value} {y : MethodName} {bytes cc : ByteArray} {maxL nL n index : Nat} {ret : Option FieldType} {ws : List Cond} {rm : Room} {Ts : List Cond} {own C : String} {b : Addr} {As : List Value} {D : va_G} {cl : List vw_C} {tys : List (ClassId × FieldType)} {wc w1 w2 ws0 : va_W} {ci N mc ms : Nat} {fs : List Value} {T : u_T} {A : Nat → Prop}
theorem tx_V {U : Type} {post : Int32 → U → Prop} {wd wsd : U → va_W} {px : String → Prop} (S : CallFix p m c cc nL s args Ts own)
    (hM : vx_Met l y ws rm (va_Pc (.ref b :: As) (tpS D cl tys wc H.size)) (va_Qi post (fun u t => wqB D cl (wd u) (va_A wc H.size) t) (va_A wc H.size)) (vx_X (fun _ : Unit => True) (fun E _ t => px E ∧ wqB D cl wc (va_A wc H.size) t) (va_A wc H.size)) mc ms (va_A wc H.size))
    (cw : CallW R s args own C index y bytes maxL ret ws rm mc ms n) (hP : va_P D cl ws0 H) (hD : va_D A ws0) (hS : va_S A s.heap H locs) (hA : ∀ q, s.heap.size ≤ q → A q) (hK : va_K D cl tys s) (hN : nw s) (hXS : xeS s) (hXH : xeH A s s.heap) (hw : ws0 = w1 ++ (wc ++ w2)) (hw' : ∀ u, w1 ++ (wd u ++ w2) = wsd u)
    (he : wc[0]? = some (b, .inr (ci, fs))) (hc : cl[ci]? = some (C, T, N)) (hst : st0 = As.reverse ++ .ref b :: rest) (hn : As.length = n) (hsize : ls.size = nL) (hW : (rest.map fun v => v.category).sum ≤ 8) (hf : cells + mc ≤ R.cells ∧ slots + ms ≤ R.slots) (hdg : decode cc pc = .ok (.invokevirtual index, 3))
    (kx : ∀ (E : String) (ce : Cell) (q9 : Addr) (H1 : Heap) (locs1 : List Loc), px E → va_P D cl ws0 H1 → va_S A s.heap H1 locs1 → H1[q9]? = some ce → ce.vm = .none → s.vm.findClass E = some ce.cls → vx_W p l e R s m args below meth c H1 locs1 (cells + mc) (slots + ms) Q (F0 m pc ls rest) q9)
    (kk : ∀ (r : Int32) (u : U) (H1 : Heap) (locs1 : List Loc), post r u → va_P D cl (wsd u) H1 → va_D A (wsd u) → va_S A s.heap H1 locs1 → W p l e R s m args below meth c H1 locs1 (cells + mc) (slots + ms) Q (F0 m (pc + 3) ls (.int r :: rest))) : W p l e R s m args below meth c H locs cells slots Q (F0 m pc ls st0) := by
  subst hw
  have hF := va_midF hD hS hA
  have hPc : va_P D cl wc H := va_P_mid hP
  have hDc : va_D (fun _ => True) wc := ⟨fun i j x y hi hj hxy => by
    have := hD.1 (w1.length + i) (w1.length + j) x y (by rw [List.getElem?_append_right (by omega), show w1.length + i - w1.length = i by omega, List.getElem?_append_left (List.getElem?_eq_some_iff.mp hi).1]; exact hi) (by rw [List.getElem?_append_right (by omega), show w1.length + j - w1.length = j by omega, List.getElem?_append_left (List.getElem?_eq_some_iff.mp hj).1]; exact hj) hxy
    omega, fun _ _ _ => trivial⟩
  refine vx_calli (vx_runV (As := As) (rest := rest) S hM cw ⟨tp_blind, va_recv hK hPc hc he, fun U hU hW => ⟨rfl, ⟨by rw [hU], by rw [hU]; exact hPc, va_K.moved hW.alike hK, nw_warm hW hN, hDc⟩, xeS_warm hW hXS, by rw [hU]; exact xeH.moved hW.alike ((hXH.kept hS.2.1).narrow hF)⟩⟩ rfl hn hsize hst (lv_room hW) hdg hf) hS (fun q _ h => hF q h) hF (fun q _ h => hF q h) ?_ ?_
  · intro E ce q9 u t H1 locs1 ht hvm hpx hbx hz hk1 hS1 hce hcv hcl
    have hP1 := hbx.2.1
    rw [ht] at hP1
    exact kx E ce q9 H1 locs1 hbx.1 (va_mid hP hD hk1 hF hP1 hbx.2.2).1 hS1 hce hcv hcl
  · intro r u t H1 locs1 ht hvm hpo hB hz hk1 hS1
    have hP1 := hB.1
    rw [ht] at hP1
    obtain ⟨k1, k2⟩ := va_mid hP hD hk1 hF hP1 hB.2
    rw [hw' u] at k1 k2
    exact kk r u H1 locs1 hpo k1 k2 hS1
end TXV
theorem tl_met {l : Launch} {y : MethodName} {ws ws' : List Cond} {rm : Room} {cc : ByteArray} {maxL : Nat} {ret : Option FieldType} {hh : List (Nat × Nat × Nat × Nat)} {D : va_G} {cl : List vw_C} {tys : List (ClassId × FieldType)} {wc : va_W} {av : List Value} {sz mc ms : Nat} (Qf : (Nat → Prop) → Array Value → State → Outcome → State → Prop)
    (hy : plainName y.cls = true) (hw : ws = Cond.codeWith y cc maxL ret hh :: ws') (hn : (lg_sl av).length ≤ maxL)
    (body : ∀ (p : Program) (e : Env) (s : State) (m : MethodId) (below : List Frame) (meth : Method) (c : Code) (A : Nat → Prop), p.tables.exec = Jvm.exec → c.code = cc → c.maxLocals = maxL → meth.sig.returnType = ret → meth.locks = false → c.exceptionTable.toList = tableOf hh → (∀ w ∈ ws, w.before av.toArray s = true) → s.vm.findClass y.cls = some m.cls →
      va_P D cl wc s.heap → va_K D cl tys s → nw s → va_D A wc → (∀ q : Nat, s.heap.size ≤ q → A q) → xeS s → xeH A s s.heap → ∀ ls : Array Slot, lv_has ls maxL (lv_args 0 av) → W p l e rm s m av.toArray below meth c s.heap [] 0 0 (MQ below (Qf A) av.toArray s mc ms A) (F0 m 0 ls [])) :
    Met l y ws rm (va_Pc av (tpS D cl tys wc sz)) (Qf (va_A wc sz)) mc ms (va_A wc sz) := by
  refine va_MetW (cc := cc) (maxL := maxL) (ret := ret) hy hw ?_
  intro p e s m args below meth c s₁ B hml hv
  obtain ⟨rfl, ⟨hsz, hP, hK, hN, hD⟩, hxs, hxh⟩ := hv
  have hl := lv_entry av (n := maxL) hn
  rw [lg_entry_eq]
  subst hsz
  have hts := atoms_spec (ws := ws) B.pre
  exact body p e s m below meth c _ B.exec B.bytes hml B.returns B.notSynchronized (vx_table (x := y) B (hts _ (by rw [hw]; exact List.mem_cons_self))) hts (findClass_of_methodNamed B.named) hP hK hN hD.self (fun q h => Or.inr h) hxs hxh _ hl
theorem kL_pass_0 : (.classLink RL 13 "java/lang/IllegalArgumentException" : Cond) ∈ wsL_pass := by decide +kernel
theorem kL_pass_1 : (.classLink RL 15 "java/lang/IllegalStateException" : Cond) ∈ wsL_pass := by decide +kernel
set_option maxRecDepth 100000 in
set_option maxHeartbeats 4000000 in
theorem c_L_pass (l : Launch) (hfl : l.stackTraces = false) (dC : Nat → ClassId) (dI : Nat → Nat → Nat) (cI cJ : ClassId) (o : Nat) (f : Nat → Int64) (b0 : Nat) (qh qs qr : Nat → Nat) (gh gs gr : St) (a1 : Int32) (ok : Int32 → St → St → St → Prop) (ek : Int32 → Prop) (hp : P_X4_pass gh gs gr a1 ok (fun E => (E = E_a ∧ ek 1) ∨ (E = E_s ∧ ek 2))) (sz : Nat) : Met l yL_pass wsL_pass { frames := 8, cells := 2, slots := 12, locals := 125 } (va_Pc [.ref b0, .int a1, .ref o] (tpS (dC, dI) vwCl [(cI, .int), (cJ, .long)] (wL o cJ f b0 qh qs qr cI gh gs gr) sz)) (va_Qi (fun (k : Int32) (u : St × St × St × (Nat → Int64)) => (k = 0 ∧ ∃ r : Int32, u.2.2.2 (0 : Int32).toNatClampNeg = r.toInt64 ∧ ok r u.1 u.2.1 u.2.2.1) ∨ (ek k ∧ u = (gh, gs, gr, f))) (fun u t => wqB (dC, dI) vwCl (wL o cJ u.2.2.2 b0 qh qs qr cI u.1 u.2.1 u.2.2.1) (va_A (wL o cJ f b0 qh qs qr cI gh gs gr) sz) t) (va_A (wL o cJ f b0 qh qs qr cI gh gs gr) sz)) 2 12 (va_A (wL o cJ f b0 qh qs qr cI gh gs gr) sz) := by
  refine tl_met (fun A => (va_Qi (fun (k : Int32) (u : St × St × St × (Nat → Int64)) => (k = 0 ∧ ∃ r : Int32, u.2.2.2 (0 : Int32).toNatClampNeg = r.toInt64 ∧ ok r u.1 u.2.1 u.2.2.1) ∨ (ek k ∧ u = (gh, gs, gr, f))) (fun u t => wqB (dC, dI) vwCl (wL o cJ u.2.2.2 b0 qh qs qr cI u.1 u.2.1 u.2.2.1) A t) A)) (cc := cL_pass) (maxL := 4) (ret := (some .int)) (by decide) rfl (Nat.le_of_ble_eq_true rfl) ?_
  intro p e s m below meth c A hx hb hml hr hlk htab hts hown hP hK hN hD hA hXS hXH ls hl
  have hS : va_S A s.heap s.heap [] := va_S.rf
  have hl : lv_has ls 4 [(0, .ref b0), (1, .int a1), (2, .ref o)] := hl
  refine lv_aload_n hx hb dL_pass_0 rfl (lv_at hl 2 rfl) ?_
  refine lv_iconst (v := 0) hx hb dL_pass_1 (by decide) ?_
  refine lv_aload_n hx hb dL_pass_2 rfl (lv_at hl 0 rfl) ?_
  refine lv_iload_n hx hb dL_pass_3 rfl (lv_at hl 1 rfl) ?_
  refine tx_V (As := [.int a1]) (rest := [.int 0, .ref o]) (w1 := [(o, .inl (cJ, 1, .inr (.inl f)))]) (w2 := []) (wsd := fun u : St × St × St => wL o cJ f b0 qh qs qr cI u.1 u.2.1 u.2.2) ⟨hx, hb, hml, hown, hts⟩ (c_X4_pass l hfl dC dI cI b0 qh qs qr gh gs gr a1 ok _ hp _) (cwV 1 hts gL_pass_X4_pass rfl rfl rfl (by decide +kernel) ⟨Nat.le_of_ble_eq_true rfl, Nat.le_of_ble_eq_true rfl⟩) hP hD hS hA (hK.sub [0] rfl) hN hXS hXH (wL_eq o cJ f b0 qh qs qr cI gh gs gr) (fun u => (wL_eq o cJ f b0 qh qs qr cI u.1 u.2.1 u.2.2).symm) rfl rfl rfl rfl hl.1 (Nat.le_of_ble_eq_true rfl) ⟨Nat.le_of_ble_eq_true rfl, Nat.le_of_ble_eq_true rfl⟩ dL_pass_4 ?_ ?_
  · intro E ce q9 H locs hpx hP hS hce hcv hcl
    rcases hpx with ⟨rfl, hek⟩ | ⟨rfl, hek⟩
    · refine vx_catch (name := "java/lang/IllegalArgumentException") hown [] (⟨0, 9, 12, 13⟩ : ExceptionTableEntry) [(⟨0, 9, 15, 15⟩ : ExceptionTableEntry)] (htab.trans rfl) (fun z hz => nomatch hz) rfl (by decide) (hts _ kL_pass_0) (va_Nw.use rfl hXS.2.2.2.2.1) hce hcv hcl ?_
      refine lv_astore_n (lv' := [(3, .ref q9), (0, .ref b0), (1, .int a1), (2, .ref o)]) hx hb dL_pass_12 rfl hl (by decide) rfl (fun ls hl => ?_)
      refine lv_iconst (v := 1) hx hb dL_pass_13 (by decide) ?_
      refine W.widen (k := 2) (n := 12) (Nat.le_of_ble_eq_true rfl) (Nat.le_of_ble_eq_true rfl) ?_
      exact W.iret hx hb hr (fun t ht _ => ⟨⟨_, (gh, gs, gr, f), rfl, Or.inr ⟨hek, rfl⟩, by rw [ht]; exact hP, hD⟩, hS.F ht⟩) hS.2.2 dL_pass_14
    · refine vx_catch (name := "java/lang/IllegalStateException") hown [(⟨0, 9, 12, 13⟩ : ExceptionTableEntry)] (⟨0, 9, 15, 15⟩ : ExceptionTableEntry) [] (htab.trans rfl) (fun z hz => by rw [List.mem_singleton] at hz; subst hz; exact Or.inr ⟨by decide, E_a, hts _ kL_pass_0, hXS.2.2.2.2.2.2.1⟩) rfl (by decide) (hts _ kL_pass_1) (va_Nw.use rfl hXS.2.2.2.2.2.1) hce hcv hcl ?_
      refine lv_astore_n (lv' := [(3, .ref q9), (0, .ref b0), (1, .int a1), (2, .ref o)]) hx hb dL_pass_15 rfl hl (by decide) rfl (fun ls hl => ?_)
      refine lv_iconst (v := 2) hx hb dL_pass_16 (by decide) ?_
      refine W.widen (k := 2) (n := 12) (Nat.le_of_ble_eq_true rfl) (Nat.le_of_ble_eq_true rfl) ?_
      exact W.iret hx hb hr (fun t ht _ => ⟨⟨_, (gh, gs, gr, f), rfl, Or.inr ⟨hek, rfl⟩, by rw [ht]; exact hP, hD⟩, hS.F ht⟩) hS.2.2 dL_pass_17
  · intro r u H locs hok hP hD hS
    refine lv_i2l hx hb dL_pass_7 rfl ?_
    refine va_last hx hb hK hP hD hS 0 1 rfl rfl vp01 dL_pass_8 (fun H locs hP hD hS => ?_)
    refine lv_goto (tgt := 18) hx hb dL_pass_9 (by decide) ?_
    refine lv_iconst (v := 0) hx hb dL_pass_18 (by decide) ?_
    have hP : va_P (dC, dI) vwCl (wL o cJ (vp_updL f (0 : Int32).toNatClampNeg r.toInt64) b0 qh qs qr cI u.1 u.2.1 u.2.2) H := hP
    have hD : va_D A (wL o cJ (vp_updL f (0 : Int32).toNatClampNeg r.toInt64) b0 qh qs qr cI u.1 u.2.1 u.2.2) := hD
    refine W.widen (k := 2) (n := 12) (Nat.le_of_ble_eq_true rfl) (Nat.le_of_ble_eq_true rfl) ?_
    exact W.iret hx hb hr (fun t ht _ => ⟨⟨_, (u.1, u.2.1, u.2.2, vp_updL f (0 : Int32).toNatClampNeg r.toInt64), rfl, Or.inl ⟨rfl, r, show vp_updL f (0 : Int32).toNatClampNeg r.toInt64 (0 : Int32).toNatClampNeg = r.toInt64 from pk_uLs, hok⟩, by rw [ht]; exact hP, hD⟩, hS.F ht⟩) hS.2.2 dL_pass_19
theorem kL_addTable_0 : (.classLink RL 13 "java/lang/IllegalArgumentException" : Cond) ∈ wsL_addTable := by decide +kernel
theorem kL_addTable_1 : (.classLink RL 15 "java/lang/IllegalStateException" : Cond) ∈ wsL_addTable := by decide +kernel
set_option maxRecDepth 100000 in
set_option maxHeartbeats 4000000 in
theorem c_L_addTable (l : Launch) (hfl : l.stackTraces = false) (dC : Nat → ClassId) (dI : Nat → Nat → Nat) (cI cJ : ClassId) (o : Nat) (f : Nat → Int64) (b0 : Nat) (qh qs qr : Nat → Nat) (gh gs gr : St) (a1 : Int32) (ok : Int32 → St → St → St → Prop) (ek : Int32 → Prop) (hp : P_X4_addTable gh gs gr a1 ok (fun E => (E = E_a ∧ ek 1) ∨ (E = E_s ∧ ek 2))) (sz : Nat) : Met l yL_addTable wsL_addTable { frames := 8, cells := 2, slots := 12, locals := 125 } (va_Pc [.ref b0, .int a1, .ref o] (tpS (dC, dI) vwCl [(cI, .int), (cJ, .long)] (wL o cJ f b0 qh qs qr cI gh gs gr) sz)) (va_Qi (fun (k : Int32) (u : St × St × St × (Nat → Int64)) => (k = 0 ∧ ∃ r : Int32, u.2.2.2 (0 : Int32).toNatClampNeg = r.toInt64 ∧ ok r u.1 u.2.1 u.2.2.1) ∨ (ek k ∧ u = (gh, gs, gr, f))) (fun u t => wqB (dC, dI) vwCl (wL o cJ u.2.2.2 b0 qh qs qr cI u.1 u.2.1 u.2.2.1) (va_A (wL o cJ f b0 qh qs qr cI gh gs gr) sz) t) (va_A (wL o cJ f b0 qh qs qr cI gh gs gr) sz)) 2 12 (va_A (wL o cJ f b0 qh qs qr cI gh gs gr) sz) := by
  refine tl_met (fun A => (va_Qi (fun (k : Int32) (u : St × St × St × (Nat → Int64)) => (k = 0 ∧ ∃ r : Int32, u.2.2.2 (0 : Int32).toNatClampNeg = r.toInt64 ∧ ok r u.1 u.2.1 u.2.2.1) ∨ (ek k ∧ u = (gh, gs, gr, f))) (fun u t => wqB (dC, dI) vwCl (wL o cJ u.2.2.2 b0 qh qs qr cI u.1 u.2.1 u.2.2.1) A t) A)) (cc := cL_addTable) (maxL := 4) (ret := (some .int)) (by decide) rfl (Nat.le_of_ble_eq_true rfl) ?_
  intro p e s m below meth c A hx hb hml hr hlk htab hts hown hP hK hN hD hA hXS hXH ls hl
  have hS : va_S A s.heap s.heap [] := va_S.rf
  have hl : lv_has ls 4 [(0, .ref b0), (1, .int a1), (2, .ref o)] := hl
  refine lv_aload_n hx hb dL_addTable_0 rfl (lv_at hl 2 rfl) ?_
  refine lv_iconst (v := 0) hx hb dL_addTable_1 (by decide) ?_
  refine lv_aload_n hx hb dL_addTable_2 rfl (lv_at hl 0 rfl) ?_
  refine lv_iload_n hx hb dL_addTable_3 rfl (lv_at hl 1 rfl) ?_
  refine tx_V (As := [.int a1]) (rest := [.int 0, .ref o]) (w1 := [(o, .inl (cJ, 1, .inr (.inl f)))]) (w2 := []) (wsd := fun u : St × St × St => wL o cJ f b0 qh qs qr cI u.1 u.2.1 u.2.2) ⟨hx, hb, hml, hown, hts⟩ (c_X4_addTable l hfl dC dI cI b0 qh qs qr gh gs gr a1 ok _ hp _) (cwV 1 hts gL_addTable_X4_addTable rfl rfl rfl (by decide +kernel) ⟨Nat.le_of_ble_eq_true rfl, Nat.le_of_ble_eq_true rfl⟩) hP hD hS hA (hK.sub [0] rfl) hN hXS hXH (wL_eq o cJ f b0 qh qs qr cI gh gs gr) (fun u => (wL_eq o cJ f b0 qh qs qr cI u.1 u.2.1 u.2.2).symm) rfl rfl rfl rfl hl.1 (Nat.le_of_ble_eq_true rfl) ⟨Nat.le_of_ble_eq_true rfl, Nat.le_of_ble_eq_true rfl⟩ dL_addTable_4 ?_ ?_
  · intro E ce q9 H locs hpx hP hS hce hcv hcl
    rcases hpx with ⟨rfl, hek⟩ | ⟨rfl, hek⟩
    · refine vx_catch (name := "java/lang/IllegalArgumentException") hown [] (⟨0, 9, 12, 13⟩ : ExceptionTableEntry) [(⟨0, 9, 15, 15⟩ : ExceptionTableEntry)] (htab.trans rfl) (fun z hz => nomatch hz) rfl (by decide) (hts _ kL_addTable_0) (va_Nw.use rfl hXS.2.2.2.2.1) hce hcv hcl ?_
      refine lv_astore_n (lv' := [(3, .ref q9), (0, .ref b0), (1, .int a1), (2, .ref o)]) hx hb dL_addTable_12 rfl hl (by decide) rfl (fun ls hl => ?_)
      refine lv_iconst (v := 1) hx hb dL_addTable_13 (by decide) ?_
      refine W.widen (k := 2) (n := 12) (Nat.le_of_ble_eq_true rfl) (Nat.le_of_ble_eq_true rfl) ?_
      exact W.iret hx hb hr (fun t ht _ => ⟨⟨_, (gh, gs, gr, f), rfl, Or.inr ⟨hek, rfl⟩, by rw [ht]; exact hP, hD⟩, hS.F ht⟩) hS.2.2 dL_addTable_14
    · refine vx_catch (name := "java/lang/IllegalStateException") hown [(⟨0, 9, 12, 13⟩ : ExceptionTableEntry)] (⟨0, 9, 15, 15⟩ : ExceptionTableEntry) [] (htab.trans rfl) (fun z hz => by rw [List.mem_singleton] at hz; subst hz; exact Or.inr ⟨by decide, E_a, hts _ kL_addTable_0, hXS.2.2.2.2.2.2.1⟩) rfl (by decide) (hts _ kL_addTable_1) (va_Nw.use rfl hXS.2.2.2.2.2.1) hce hcv hcl ?_
      refine lv_astore_n (lv' := [(3, .ref q9), (0, .ref b0), (1, .int a1), (2, .ref o)]) hx hb dL_addTable_15 rfl hl (by decide) rfl (fun ls hl => ?_)
      refine lv_iconst (v := 2) hx hb dL_addTable_16 (by decide) ?_
      refine W.widen (k := 2) (n := 12) (Nat.le_of_ble_eq_true rfl) (Nat.le_of_ble_eq_true rfl) ?_
      exact W.iret hx hb hr (fun t ht _ => ⟨⟨_, (gh, gs, gr, f), rfl, Or.inr ⟨hek, rfl⟩, by rw [ht]; exact hP, hD⟩, hS.F ht⟩) hS.2.2 dL_addTable_17
  · intro r u H locs hok hP hD hS
    refine lv_i2l hx hb dL_addTable_7 rfl ?_
    refine va_last hx hb hK hP hD hS 0 1 rfl rfl vp01 dL_addTable_8 (fun H locs hP hD hS => ?_)
    refine lv_goto (tgt := 18) hx hb dL_addTable_9 (by decide) ?_
    refine lv_iconst (v := 0) hx hb dL_addTable_18 (by decide) ?_
    have hP : va_P (dC, dI) vwCl (wL o cJ (vp_updL f (0 : Int32).toNatClampNeg r.toInt64) b0 qh qs qr cI u.1 u.2.1 u.2.2) H := hP
    have hD : va_D A (wL o cJ (vp_updL f (0 : Int32).toNatClampNeg r.toInt64) b0 qh qs qr cI u.1 u.2.1 u.2.2) := hD
    refine W.widen (k := 2) (n := 12) (Nat.le_of_ble_eq_true rfl) (Nat.le_of_ble_eq_true rfl) ?_
    exact W.iret hx hb hr (fun t ht _ => ⟨⟨_, (u.1, u.2.1, u.2.2, vp_updL f (0 : Int32).toNatClampNeg r.toInt64), rfl, Or.inl ⟨rfl, r, show vp_updL f (0 : Int32).toNatClampNeg r.toInt64 (0 : Int32).toNatClampNeg = r.toInt64 from pk_uLs, hok⟩, by rw [ht]; exact hP, hD⟩, hS.F ht⟩) hS.2.2 dL_addTable_19
theorem kL_addTitle_0 : (.classLink RL 13 "java/lang/IllegalArgumentException" : Cond) ∈ wsL_addTitle := by decide +kernel
theorem kL_addTitle_1 : (.classLink RL 15 "java/lang/IllegalStateException" : Cond) ∈ wsL_addTitle := by decide +kernel
set_option maxRecDepth 100000 in
set_option maxHeartbeats 4000000 in
theorem c_L_addTitle (l : Launch) (hfl : l.stackTraces = false) (dC : Nat → ClassId) (dI : Nat → Nat → Nat) (cI cJ : ClassId) (o : Nat) (f : Nat → Int64) (b0 : Nat) (qh qs qr : Nat → Nat) (gh gs gr : St) (a1 : Int32) (a2 : Int32) (a3 : Int32) (a4 : Int32) (a5 : Int32) (a6 : Int32) (a7 : Int32) (ok : Int32 → St → St → St → Prop) (ek : Int32 → Prop) (hp : P_X4_addTitle gh gs gr a1 a2 a3 a4 a5 a6 a7 ok (fun E => (E = E_a ∧ ek 1) ∨ (E = E_s ∧ ek 2))) (sz : Nat) : Met l yL_addTitle wsL_addTitle { frames := 8, cells := 8, slots := 48, locals := 132 } (va_Pc [.ref b0, .int a1, .int a2, .int a3, .int a4, .int a5, .int a6, .int a7, .ref o] (tpS (dC, dI) vwCl [(cI, .int), (cJ, .long)] (wL o cJ f b0 qh qs qr cI gh gs gr) sz)) (va_Qi (fun (k : Int32) (u : St × St × St × (Nat → Int64)) => (k = 0 ∧ ∃ r : Int32, u.2.2.2 (0 : Int32).toNatClampNeg = r.toInt64 ∧ ok r u.1 u.2.1 u.2.2.1) ∨ (ek k ∧ u = (gh, gs, gr, f))) (fun u t => wqB (dC, dI) vwCl (wL o cJ u.2.2.2 b0 qh qs qr cI u.1 u.2.1 u.2.2.1) (va_A (wL o cJ f b0 qh qs qr cI gh gs gr) sz) t) (va_A (wL o cJ f b0 qh qs qr cI gh gs gr) sz)) 8 48 (va_A (wL o cJ f b0 qh qs qr cI gh gs gr) sz) := by
  refine tl_met (fun A => (va_Qi (fun (k : Int32) (u : St × St × St × (Nat → Int64)) => (k = 0 ∧ ∃ r : Int32, u.2.2.2 (0 : Int32).toNatClampNeg = r.toInt64 ∧ ok r u.1 u.2.1 u.2.2.1) ∨ (ek k ∧ u = (gh, gs, gr, f))) (fun u t => wqB (dC, dI) vwCl (wL o cJ u.2.2.2 b0 qh qs qr cI u.1 u.2.1 u.2.2.1) A t) A)) (cc := cL_addTitle) (maxL := 10) (ret := (some .int)) (by decide) rfl (Nat.le_of_ble_eq_true rfl) ?_
  intro p e s m below meth c A hx hb hml hr hlk htab hts hown hP hK hN hD hA hXS hXH ls hl
  have hS : va_S A s.heap s.heap [] := va_S.rf
  have hl : lv_has ls 10 [(0, .ref b0), (1, .int a1), (2, .int a2), (3, .int a3), (4, .int a4), (5, .int a5), (6, .int a6), (7, .int a7), (8, .ref o)] := hl
  refine lv_aload hx hb dL_addTitle_0 (lv_at hl 8 rfl) ?_
  refine lv_iconst (v := 0) hx hb dL_addTitle_2 (by decide) ?_
  refine lv_aload_n hx hb dL_addTitle_3 rfl (lv_at hl 0 rfl) ?_
  refine lv_iload_n hx hb dL_addTitle_4 rfl (lv_at hl 1 rfl) ?_
  refine lv_iload_n hx hb dL_addTitle_5 rfl (lv_at hl 2 rfl) ?_
  refine lv_iload_n hx hb dL_addTitle_6 rfl (lv_at hl 3 rfl) ?_
  refine lv_iload hx hb dL_addTitle_7 (lv_at hl 4 rfl) ?_
  refine lv_iload hx hb dL_addTitle_9 (lv_at hl 5 rfl) ?_
  refine lv_iload hx hb dL_addTitle_11 (lv_at hl 6 rfl) ?_
  refine lv_iload hx hb dL_addTitle_13 (lv_at hl 7 rfl) ?_
  refine tx_V (As := [.int a1, .int a2, .int a3, .int a4, .int a5, .int a6, .int a7]) (rest := [.int 0, .ref o]) (w1 := [(o, .inl (cJ, 1, .inr (.inl f)))]) (w2 := []) (wsd := fun u : St × St × St => wL o cJ f b0 qh qs qr cI u.1 u.2.1 u.2.2) ⟨hx, hb, hml, hown, hts⟩ (c_X4_addTitle l hfl dC dI cI b0 qh qs qr gh gs gr a1 a2 a3 a4 a5 a6 a7 ok _ hp _) (cwV 7 hts gL_addTitle_X4_addTitle rfl rfl rfl (by decide +kernel) ⟨Nat.le_of_ble_eq_true rfl, Nat.le_of_ble_eq_true rfl⟩) hP hD hS hA (hK.sub [0] rfl) hN hXS hXH (wL_eq o cJ f b0 qh qs qr cI gh gs gr) (fun u => (wL_eq o cJ f b0 qh qs qr cI u.1 u.2.1 u.2.2).symm) rfl rfl rfl rfl hl.1 (Nat.le_of_ble_eq_true rfl) ⟨Nat.le_of_ble_eq_true rfl, Nat.le_of_ble_eq_true rfl⟩ dL_addTitle_15 ?_ ?_
  · intro E ce q9 H locs hpx hP hS hce hcv hcl
    rcases hpx with ⟨rfl, hek⟩ | ⟨rfl, hek⟩
    · refine vx_catch (name := "java/lang/IllegalArgumentException") hown [] (⟨0, 20, 23, 13⟩ : ExceptionTableEntry) [(⟨0, 20, 27, 15⟩ : ExceptionTableEntry)] (htab.trans rfl) (fun z hz => nomatch hz) rfl (by decide) (hts _ kL_addTitle_0) (va_Nw.use rfl hXS.2.2.2.2.1) hce hcv hcl ?_
      refine lv_astore (lv' := [(9, .ref q9), (0, .ref b0), (1, .int a1), (2, .int a2), (3, .int a3), (4, .int a4), (5, .int a5), (6, .int a6), (7, .int a7), (8, .ref o)]) hx hb dL_addTitle_23 hl (by decide) rfl (fun ls hl => ?_)
      refine lv_iconst (v := 1) hx hb dL_addTitle_25 (by decide) ?_
      refine W.widen (k := 8) (n := 48) (Nat.le_of_ble_eq_true rfl) (Nat.le_of_ble_eq_true rfl) ?_
      exact W.iret hx hb hr (fun t ht _ => ⟨⟨_, (gh, gs, gr, f), rfl, Or.inr ⟨hek, rfl⟩, by rw [ht]; exact hP, hD⟩, hS.F ht⟩) hS.2.2 dL_addTitle_26
    · refine vx_catch (name := "java/lang/IllegalStateException") hown [(⟨0, 20, 23, 13⟩ : ExceptionTableEntry)] (⟨0, 20, 27, 15⟩ : ExceptionTableEntry) [] (htab.trans rfl) (fun z hz => by rw [List.mem_singleton] at hz; subst hz; exact Or.inr ⟨by decide, E_a, hts _ kL_addTitle_0, hXS.2.2.2.2.2.2.1⟩) rfl (by decide) (hts _ kL_addTitle_1) (va_Nw.use rfl hXS.2.2.2.2.2.1) hce hcv hcl ?_
      refine lv_astore (lv' := [(9, .ref q9), (0, .ref b0), (1, .int a1), (2, .int a2), (3, .int a3), (4, .int a4), (5, .int a5), (6, .int a6), (7, .int a7), (8, .ref o)]) hx hb dL_addTitle_27 hl (by decide) rfl (fun ls hl => ?_)
      refine lv_iconst (v := 2) hx hb dL_addTitle_29 (by decide) ?_
      refine W.widen (k := 8) (n := 48) (Nat.le_of_ble_eq_true rfl) (Nat.le_of_ble_eq_true rfl) ?_
      exact W.iret hx hb hr (fun t ht _ => ⟨⟨_, (gh, gs, gr, f), rfl, Or.inr ⟨hek, rfl⟩, by rw [ht]; exact hP, hD⟩, hS.F ht⟩) hS.2.2 dL_addTitle_30
  · intro r u H locs hok hP hD hS
    refine lv_i2l hx hb dL_addTitle_18 rfl ?_
    refine va_last hx hb hK hP hD hS 0 1 rfl rfl vp01 dL_addTitle_19 (fun H locs hP hD hS => ?_)
    refine lv_goto (tgt := 31) hx hb dL_addTitle_20 (by decide) ?_
    refine lv_iconst (v := 0) hx hb dL_addTitle_31 (by decide) ?_
    have hP : va_P (dC, dI) vwCl (wL o cJ (vp_updL f (0 : Int32).toNatClampNeg r.toInt64) b0 qh qs qr cI u.1 u.2.1 u.2.2) H := hP
    have hD : va_D A (wL o cJ (vp_updL f (0 : Int32).toNatClampNeg r.toInt64) b0 qh qs qr cI u.1 u.2.1 u.2.2) := hD
    refine W.widen (k := 8) (n := 48) (Nat.le_of_ble_eq_true rfl) (Nat.le_of_ble_eq_true rfl) ?_
    exact W.iret hx hb hr (fun t ht _ => ⟨⟨_, (u.1, u.2.1, u.2.2, vp_updL f (0 : Int32).toNatClampNeg r.toInt64), rfl, Or.inl ⟨rfl, r, show vp_updL f (0 : Int32).toNatClampNeg r.toInt64 (0 : Int32).toNatClampNeg = r.toInt64 from pk_uLs, hok⟩, by rw [ht]; exact hP, hD⟩, hS.F ht⟩) hS.2.2 dL_addTitle_32
theorem kL_addCopy_0 : (.classLink RL 27 "java/lang/IndexOutOfBoundsException" : Cond) ∈ wsL_addCopy := by decide +kernel
theorem kL_addCopy_1 : (.classLink RL 15 "java/lang/IllegalStateException" : Cond) ∈ wsL_addCopy := by decide +kernel
set_option maxRecDepth 100000 in
set_option maxHeartbeats 4000000 in
theorem c_L_addCopy (l : Launch) (hfl : l.stackTraces = false) (dC : Nat → ClassId) (dI : Nat → Nat → Nat) (cI cJ : ClassId) (o : Nat) (f : Nat → Int64) (b0 : Nat) (qh qs qr : Nat → Nat) (gh gs gr : St) (a1 : Int32) (ok : Int32 → St → St → St → Prop) (ek : Int32 → Prop) (hp : P_X4_addCopy gh gs gr a1 ok (fun E => (E = E_i ∧ ek 1) ∨ (E = E_s ∧ ek 2))) (sz : Nat) : Met l yL_addCopy wsL_addCopy { frames := 8, cells := 2, slots := 12, locals := 124 } (va_Pc [.ref b0, .int a1, .ref o] (tpS (dC, dI) vwCl [(cI, .int), (cJ, .long)] (wL o cJ f b0 qh qs qr cI gh gs gr) sz)) (va_Qi (fun (k : Int32) (u : St × St × St × (Nat → Int64)) => (k = 0 ∧ ∃ r : Int32, u.2.2.2 (0 : Int32).toNatClampNeg = r.toInt64 ∧ ok r u.1 u.2.1 u.2.2.1) ∨ (ek k ∧ u = (gh, gs, gr, f))) (fun u t => wqB (dC, dI) vwCl (wL o cJ u.2.2.2 b0 qh qs qr cI u.1 u.2.1 u.2.2.1) (va_A (wL o cJ f b0 qh qs qr cI gh gs gr) sz) t) (va_A (wL o cJ f b0 qh qs qr cI gh gs gr) sz)) 2 12 (va_A (wL o cJ f b0 qh qs qr cI gh gs gr) sz) := by
  refine tl_met (fun A => (va_Qi (fun (k : Int32) (u : St × St × St × (Nat → Int64)) => (k = 0 ∧ ∃ r : Int32, u.2.2.2 (0 : Int32).toNatClampNeg = r.toInt64 ∧ ok r u.1 u.2.1 u.2.2.1) ∨ (ek k ∧ u = (gh, gs, gr, f))) (fun u t => wqB (dC, dI) vwCl (wL o cJ u.2.2.2 b0 qh qs qr cI u.1 u.2.1 u.2.2.1) A t) A)) (cc := cL_addCopy) (maxL := 4) (ret := (some .int)) (by decide) rfl (Nat.le_of_ble_eq_true rfl) ?_
  intro p e s m below meth c A hx hb hml hr hlk htab hts hown hP hK hN hD hA hXS hXH ls hl
  have hS : va_S A s.heap s.heap [] := va_S.rf
  have hl : lv_has ls 4 [(0, .ref b0), (1, .int a1), (2, .ref o)] := hl
  refine lv_aload_n hx hb dL_addCopy_0 rfl (lv_at hl 2 rfl) ?_
  refine lv_iconst (v := 0) hx hb dL_addCopy_1 (by decide) ?_
  refine lv_aload_n hx hb dL_addCopy_2 rfl (lv_at hl 0 rfl) ?_
  refine lv_iload_n hx hb dL_addCopy_3 rfl (lv_at hl 1 rfl) ?_
  refine tx_V (As := [.int a1]) (rest := [.int 0, .ref o]) (w1 := [(o, .inl (cJ, 1, .inr (.inl f)))]) (w2 := []) (wsd := fun u : St × St × St => wL o cJ f b0 qh qs qr cI u.1 u.2.1 u.2.2) ⟨hx, hb, hml, hown, hts⟩ (c_X4_addCopy l hfl dC dI cI b0 qh qs qr gh gs gr a1 ok _ hp _) (cwV 1 hts gL_addCopy_X4_addCopy rfl rfl rfl (by decide +kernel) ⟨Nat.le_of_ble_eq_true rfl, Nat.le_of_ble_eq_true rfl⟩) hP hD hS hA (hK.sub [0] rfl) hN hXS hXH (wL_eq o cJ f b0 qh qs qr cI gh gs gr) (fun u => (wL_eq o cJ f b0 qh qs qr cI u.1 u.2.1 u.2.2).symm) rfl rfl rfl rfl hl.1 (Nat.le_of_ble_eq_true rfl) ⟨Nat.le_of_ble_eq_true rfl, Nat.le_of_ble_eq_true rfl⟩ dL_addCopy_4 ?_ ?_
  · intro E ce q9 H locs hpx hP hS hce hcv hcl
    rcases hpx with ⟨rfl, hek⟩ | ⟨rfl, hek⟩
    · refine vx_catch (name := "java/lang/IndexOutOfBoundsException") hown [] (⟨0, 9, 12, 27⟩ : ExceptionTableEntry) [(⟨0, 9, 15, 15⟩ : ExceptionTableEntry)] (htab.trans rfl) (fun z hz => nomatch hz) rfl (by decide) (hts _ kL_addCopy_0) (va_Nw.use rfl hXS.2.2.2.1) hce hcv hcl ?_
      refine lv_astore_n (lv' := [(3, .ref q9), (0, .ref b0), (1, .int a1), (2, .ref o)]) hx hb dL_addCopy_12 rfl hl (by decide) rfl (fun ls hl => ?_)
      refine lv_iconst (v := 1) hx hb dL_addCopy_13 (by decide) ?_
      refine W.widen (k := 2) (n := 12) (Nat.le_of_ble_eq_true rfl) (Nat.le_of_ble_eq_true rfl) ?_
      exact W.iret hx hb hr (fun t ht _ => ⟨⟨_, (gh, gs, gr, f), rfl, Or.inr ⟨hek, rfl⟩, by rw [ht]; exact hP, hD⟩, hS.F ht⟩) hS.2.2 dL_addCopy_14
    · refine vx_catch (name := "java/lang/IllegalStateException") hown [(⟨0, 9, 12, 27⟩ : ExceptionTableEntry)] (⟨0, 9, 15, 15⟩ : ExceptionTableEntry) [] (htab.trans rfl) (fun z hz => by rw [List.mem_singleton] at hz; subst hz; exact Or.inr ⟨by decide, E_i, hts _ kL_addCopy_0, hXS.2.2.2.2.2.2.2.1⟩) rfl (by decide) (hts _ kL_addCopy_1) (va_Nw.use rfl hXS.2.2.2.2.2.1) hce hcv hcl ?_
      refine lv_astore_n (lv' := [(3, .ref q9), (0, .ref b0), (1, .int a1), (2, .ref o)]) hx hb dL_addCopy_15 rfl hl (by decide) rfl (fun ls hl => ?_)
      refine lv_iconst (v := 2) hx hb dL_addCopy_16 (by decide) ?_
      refine W.widen (k := 2) (n := 12) (Nat.le_of_ble_eq_true rfl) (Nat.le_of_ble_eq_true rfl) ?_
      exact W.iret hx hb hr (fun t ht _ => ⟨⟨_, (gh, gs, gr, f), rfl, Or.inr ⟨hek, rfl⟩, by rw [ht]; exact hP, hD⟩, hS.F ht⟩) hS.2.2 dL_addCopy_17
  · intro r u H locs hok hP hD hS
    refine lv_i2l hx hb dL_addCopy_7 rfl ?_
    refine va_last hx hb hK hP hD hS 0 1 rfl rfl vp01 dL_addCopy_8 (fun H locs hP hD hS => ?_)
    refine lv_goto (tgt := 18) hx hb dL_addCopy_9 (by decide) ?_
    refine lv_iconst (v := 0) hx hb dL_addCopy_18 (by decide) ?_
    have hP : va_P (dC, dI) vwCl (wL o cJ (vp_updL f (0 : Int32).toNatClampNeg r.toInt64) b0 qh qs qr cI u.1 u.2.1 u.2.2) H := hP
    have hD : va_D A (wL o cJ (vp_updL f (0 : Int32).toNatClampNeg r.toInt64) b0 qh qs qr cI u.1 u.2.1 u.2.2) := hD
    refine W.widen (k := 2) (n := 12) (Nat.le_of_ble_eq_true rfl) (Nat.le_of_ble_eq_true rfl) ?_
    exact W.iret hx hb hr (fun t ht _ => ⟨⟨_, (u.1, u.2.1, u.2.2, vp_updL f (0 : Int32).toNatClampNeg r.toInt64), rfl, Or.inl ⟨rfl, r, show vp_updL f (0 : Int32).toNatClampNeg r.toInt64 (0 : Int32).toNatClampNeg = r.toInt64 from pk_uLs, hok⟩, by rw [ht]; exact hP, hD⟩, hS.F ht⟩) hS.2.2 dL_addCopy_19
theorem kL_addRule_0 : (.classLink RL 27 "java/lang/IndexOutOfBoundsException" : Cond) ∈ wsL_addRule := by decide +kernel
theorem kL_addRule_1 : (.classLink RL 13 "java/lang/IllegalArgumentException" : Cond) ∈ wsL_addRule := by decide +kernel
theorem kL_addRule_2 : (.classLink RL 15 "java/lang/IllegalStateException" : Cond) ∈ wsL_addRule := by decide +kernel
set_option maxRecDepth 100000 in
set_option maxHeartbeats 4000000 in
theorem c_L_addRule (l : Launch) (hfl : l.stackTraces = false) (dC : Nat → ClassId) (dI : Nat → Nat → Nat) (cI cJ : ClassId) (o : Nat) (f : Nat → Int64) (b0 : Nat) (qh qs qr : Nat → Nat) (gh gs gr : St) (a1 : Int32) (a2 : Int32) (a3 : Int32) (a4 : Int32) (a5 : Int32) (ok : Int32 → St → St → St → Prop) (ek : Int32 → Prop) (hp : P_X4_addRule gh gs gr a1 a2 a3 a4 a5 ok (fun E => (E = E_i ∧ ek 1) ∨ (E = E_a ∧ ek 2) ∨ (E = E_s ∧ ek 3))) (sz : Nat) : Met l yL_addRule wsL_addRule { frames := 8, cells := 6, slots := 36, locals := 129 } (va_Pc [.ref b0, .int a1, .int a2, .int a3, .int a4, .int a5, .ref o] (tpS (dC, dI) vwCl [(cI, .int), (cJ, .long)] (wL o cJ f b0 qh qs qr cI gh gs gr) sz)) (va_Qi (fun (k : Int32) (u : St × St × St × (Nat → Int64)) => (k = 0 ∧ ∃ r : Int32, u.2.2.2 (0 : Int32).toNatClampNeg = r.toInt64 ∧ ok r u.1 u.2.1 u.2.2.1) ∨ (ek k ∧ u = (gh, gs, gr, f))) (fun u t => wqB (dC, dI) vwCl (wL o cJ u.2.2.2 b0 qh qs qr cI u.1 u.2.1 u.2.2.1) (va_A (wL o cJ f b0 qh qs qr cI gh gs gr) sz) t) (va_A (wL o cJ f b0 qh qs qr cI gh gs gr) sz)) 6 36 (va_A (wL o cJ f b0 qh qs qr cI gh gs gr) sz) := by
  refine tl_met (fun A => (va_Qi (fun (k : Int32) (u : St × St × St × (Nat → Int64)) => (k = 0 ∧ ∃ r : Int32, u.2.2.2 (0 : Int32).toNatClampNeg = r.toInt64 ∧ ok r u.1 u.2.1 u.2.2.1) ∨ (ek k ∧ u = (gh, gs, gr, f))) (fun u t => wqB (dC, dI) vwCl (wL o cJ u.2.2.2 b0 qh qs qr cI u.1 u.2.1 u.2.2.1) A t) A)) (cc := cL_addRule) (maxL := 8) (ret := (some .int)) (by decide) rfl (Nat.le_of_ble_eq_true rfl) ?_
  intro p e s m below meth c A hx hb hml hr hlk htab hts hown hP hK hN hD hA hXS hXH ls hl
  have hS : va_S A s.heap s.heap [] := va_S.rf
  have hl : lv_has ls 8 [(0, .ref b0), (1, .int a1), (2, .int a2), (3, .int a3), (4, .int a4), (5, .int a5), (6, .ref o)] := hl
  refine lv_aload hx hb dL_addRule_0 (lv_at hl 6 rfl) ?_
  refine lv_iconst (v := 0) hx hb dL_addRule_2 (by decide) ?_
  refine lv_aload_n hx hb dL_addRule_3 rfl (lv_at hl 0 rfl) ?_
  refine lv_iload_n hx hb dL_addRule_4 rfl (lv_at hl 1 rfl) ?_
  refine lv_iload_n hx hb dL_addRule_5 rfl (lv_at hl 2 rfl) ?_
  refine lv_iload_n hx hb dL_addRule_6 rfl (lv_at hl 3 rfl) ?_
  refine lv_iload hx hb dL_addRule_7 (lv_at hl 4 rfl) ?_
  refine lv_iload hx hb dL_addRule_9 (lv_at hl 5 rfl) ?_
  refine tx_V (As := [.int a1, .int a2, .int a3, .int a4, .int a5]) (rest := [.int 0, .ref o]) (w1 := [(o, .inl (cJ, 1, .inr (.inl f)))]) (w2 := []) (wsd := fun u : St × St × St => wL o cJ f b0 qh qs qr cI u.1 u.2.1 u.2.2) ⟨hx, hb, hml, hown, hts⟩ (c_X4_addRule l hfl dC dI cI b0 qh qs qr gh gs gr a1 a2 a3 a4 a5 ok _ hp _) (cwV 5 hts gL_addRule_X4_addRule rfl rfl rfl (by decide +kernel) ⟨Nat.le_of_ble_eq_true rfl, Nat.le_of_ble_eq_true rfl⟩) hP hD hS hA (hK.sub [0] rfl) hN hXS hXH (wL_eq o cJ f b0 qh qs qr cI gh gs gr) (fun u => (wL_eq o cJ f b0 qh qs qr cI u.1 u.2.1 u.2.2).symm) rfl rfl rfl rfl hl.1 (Nat.le_of_ble_eq_true rfl) ⟨Nat.le_of_ble_eq_true rfl, Nat.le_of_ble_eq_true rfl⟩ dL_addRule_11 ?_ ?_
  · intro E ce q9 H locs hpx hP hS hce hcv hcl
    rcases hpx with ⟨rfl, hek⟩ | ⟨rfl, hek⟩ | ⟨rfl, hek⟩
    · refine vx_catch (name := "java/lang/IndexOutOfBoundsException") hown [] (⟨0, 16, 19, 27⟩ : ExceptionTableEntry) [(⟨0, 16, 23, 13⟩ : ExceptionTableEntry), (⟨0, 16, 27, 15⟩ : ExceptionTableEntry)] (htab.trans rfl) (fun z hz => nomatch hz) rfl (by decide) (hts _ kL_addRule_0) (va_Nw.use rfl hXS.2.2.2.1) hce hcv hcl ?_
      refine lv_astore (lv' := [(7, .ref q9), (0, .ref b0), (1, .int a1), (2, .int a2), (3, .int a3), (4, .int a4), (5, .int a5), (6, .ref o)]) hx hb dL_addRule_19 hl (by decide) rfl (fun ls hl => ?_)
      refine lv_iconst (v := 1) hx hb dL_addRule_21 (by decide) ?_
      refine W.widen (k := 6) (n := 36) (Nat.le_of_ble_eq_true rfl) (Nat.le_of_ble_eq_true rfl) ?_
      exact W.iret hx hb hr (fun t ht _ => ⟨⟨_, (gh, gs, gr, f), rfl, Or.inr ⟨hek, rfl⟩, by rw [ht]; exact hP, hD⟩, hS.F ht⟩) hS.2.2 dL_addRule_22
    · refine vx_catch (name := "java/lang/IllegalArgumentException") hown [(⟨0, 16, 19, 27⟩ : ExceptionTableEntry)] (⟨0, 16, 23, 13⟩ : ExceptionTableEntry) [(⟨0, 16, 27, 15⟩ : ExceptionTableEntry)] (htab.trans rfl) (fun z hz => by rw [List.mem_singleton] at hz; subst hz; exact Or.inr ⟨by decide, E_i, hts _ kL_addRule_0, hXS.2.2.2.2.2.2.2.2.1⟩) rfl (by decide) (hts _ kL_addRule_1) (va_Nw.use rfl hXS.2.2.2.2.1) hce hcv hcl ?_
      refine lv_astore (lv' := [(7, .ref q9), (0, .ref b0), (1, .int a1), (2, .int a2), (3, .int a3), (4, .int a4), (5, .int a5), (6, .ref o)]) hx hb dL_addRule_23 hl (by decide) rfl (fun ls hl => ?_)
      refine lv_iconst (v := 2) hx hb dL_addRule_25 (by decide) ?_
      refine W.widen (k := 6) (n := 36) (Nat.le_of_ble_eq_true rfl) (Nat.le_of_ble_eq_true rfl) ?_
      exact W.iret hx hb hr (fun t ht _ => ⟨⟨_, (gh, gs, gr, f), rfl, Or.inr ⟨hek, rfl⟩, by rw [ht]; exact hP, hD⟩, hS.F ht⟩) hS.2.2 dL_addRule_26
    · have hps : ∀ z ∈ ([(⟨0, 16, 19, 27⟩ : ExceptionTableEntry), (⟨0, 16, 23, 13⟩ : ExceptionTableEntry)] : List ExceptionTableEntry), covers z 11 = false ∨ (z.catchType ≠ 0 ∧ ∃ nm : String, (Cond.classLink RL z.catchType nm).before ([.ref b0, .int a1, .int a2, .int a3, .int a4, .int a5, .ref o] : List Value).toArray s = true ∧ va_Nc E_s nm s) := by
        intro z hz
        simp only [List.mem_cons, List.not_mem_nil, or_false] at hz
        rcases hz with rfl | rfl
        · exact Or.inr ⟨by decide, E_i, hts _ kL_addRule_0, hXS.2.2.2.2.2.2.2.1⟩
        · exact Or.inr ⟨by decide, E_a, hts _ kL_addRule_1, hXS.2.2.2.2.2.2.1⟩
      refine vx_catch (name := "java/lang/IllegalStateException") hown [(⟨0, 16, 19, 27⟩ : ExceptionTableEntry), (⟨0, 16, 23, 13⟩ : ExceptionTableEntry)] (⟨0, 16, 27, 15⟩ : ExceptionTableEntry) [] (htab.trans rfl) hps rfl (by decide) (hts _ kL_addRule_2) (va_Nw.use rfl hXS.2.2.2.2.2.1) hce hcv hcl ?_
      refine lv_astore (lv' := [(7, .ref q9), (0, .ref b0), (1, .int a1), (2, .int a2), (3, .int a3), (4, .int a4), (5, .int a5), (6, .ref o)]) hx hb dL_addRule_27 hl (by decide) rfl (fun ls hl => ?_)
      refine lv_iconst (v := 3) hx hb dL_addRule_29 (by decide) ?_
      refine W.widen (k := 6) (n := 36) (Nat.le_of_ble_eq_true rfl) (Nat.le_of_ble_eq_true rfl) ?_
      exact W.iret hx hb hr (fun t ht _ => ⟨⟨_, (gh, gs, gr, f), rfl, Or.inr ⟨hek, rfl⟩, by rw [ht]; exact hP, hD⟩, hS.F ht⟩) hS.2.2 dL_addRule_30
  · intro r u H locs hok hP hD hS
    refine lv_i2l hx hb dL_addRule_14 rfl ?_
    refine va_last hx hb hK hP hD hS 0 1 rfl rfl vp01 dL_addRule_15 (fun H locs hP hD hS => ?_)
    refine lv_goto (tgt := 31) hx hb dL_addRule_16 (by decide) ?_
    refine lv_iconst (v := 0) hx hb dL_addRule_31 (by decide) ?_
    have hP : va_P (dC, dI) vwCl (wL o cJ (vp_updL f (0 : Int32).toNatClampNeg r.toInt64) b0 qh qs qr cI u.1 u.2.1 u.2.2) H := hP
    have hD : va_D A (wL o cJ (vp_updL f (0 : Int32).toNatClampNeg r.toInt64) b0 qh qs qr cI u.1 u.2.1 u.2.2) := hD
    refine W.widen (k := 6) (n := 36) (Nat.le_of_ble_eq_true rfl) (Nat.le_of_ble_eq_true rfl) ?_
    exact W.iret hx hb hr (fun t ht _ => ⟨⟨_, (u.1, u.2.1, u.2.2, vp_updL f (0 : Int32).toNatClampNeg r.toInt64), rfl, Or.inl ⟨rfl, r, show vp_updL f (0 : Int32).toNatClampNeg r.toInt64 (0 : Int32).toNatClampNeg = r.toInt64 from pk_uLs, hok⟩, by rw [ht]; exact hP, hD⟩, hS.F ht⟩) hS.2.2 dL_addRule_32
theorem kL_arrive_0 : (.classLink RL 13 "java/lang/IllegalArgumentException" : Cond) ∈ wsL_arrive := by decide +kernel
theorem kL_arrive_1 : (.classLink RL 15 "java/lang/IllegalStateException" : Cond) ∈ wsL_arrive := by decide +kernel
set_option maxRecDepth 100000 in
set_option maxHeartbeats 4000000 in
theorem c_L_arrive (l : Launch) (hfl : l.stackTraces = false) (dC : Nat → ClassId) (dI : Nat → Nat → Nat) (cI cJ : ClassId) (o : Nat) (f : Nat → Int64) (b0 : Nat) (qh qs qr : Nat → Nat) (gh gs gr : St) (a1 : Int32) (a2 : Int32) (ok : Int32 → St → St → St → Prop) (ek : Int32 → Prop) (hp : P_X4_arrive gh gs gr a1 a2 ok (fun E => (E = E_a ∧ ek 1) ∨ (E = E_s ∧ ek 2))) (sz : Nat) : Met l yL_arrive wsL_arrive { frames := 8, cells := 3, slots := 18, locals := 139 } (va_Pc [.ref b0, .int a1, .int a2, .ref o] (tpS (dC, dI) vwCl [(cI, .int), (cJ, .long)] (wL o cJ f b0 qh qs qr cI gh gs gr) sz)) (va_Qi (fun (k : Int32) (u : St × St × St × (Nat → Int64)) => (k = 0 ∧ ∃ r : Int32, u.2.2.2 (0 : Int32).toNatClampNeg = r.toInt64 ∧ ok r u.1 u.2.1 u.2.2.1) ∨ (ek k ∧ u = (gh, gs, gr, f))) (fun u t => wqB (dC, dI) vwCl (wL o cJ u.2.2.2 b0 qh qs qr cI u.1 u.2.1 u.2.2.1) (va_A (wL o cJ f b0 qh qs qr cI gh gs gr) sz) t) (va_A (wL o cJ f b0 qh qs qr cI gh gs gr) sz)) 3 18 (va_A (wL o cJ f b0 qh qs qr cI gh gs gr) sz) := by
  refine tl_met (fun A => (va_Qi (fun (k : Int32) (u : St × St × St × (Nat → Int64)) => (k = 0 ∧ ∃ r : Int32, u.2.2.2 (0 : Int32).toNatClampNeg = r.toInt64 ∧ ok r u.1 u.2.1 u.2.2.1) ∨ (ek k ∧ u = (gh, gs, gr, f))) (fun u t => wqB (dC, dI) vwCl (wL o cJ u.2.2.2 b0 qh qs qr cI u.1 u.2.1 u.2.2.1) A t) A)) (cc := cL_arrive) (maxL := 5) (ret := (some .int)) (by decide) rfl (Nat.le_of_ble_eq_true rfl) ?_
  intro p e s m below meth c A hx hb hml hr hlk htab hts hown hP hK hN hD hA hXS hXH ls hl
  have hS : va_S A s.heap s.heap [] := va_S.rf
  have hl : lv_has ls 5 [(0, .ref b0), (1, .int a1), (2, .int a2), (3, .ref o)] := hl
  refine lv_aload_n hx hb dL_arrive_0 rfl (lv_at hl 3 rfl) ?_
  refine lv_iconst (v := 0) hx hb dL_arrive_1 (by decide) ?_
  refine lv_aload_n hx hb dL_arrive_2 rfl (lv_at hl 0 rfl) ?_
  refine lv_iload_n hx hb dL_arrive_3 rfl (lv_at hl 1 rfl) ?_
  refine lv_iload_n hx hb dL_arrive_4 rfl (lv_at hl 2 rfl) ?_
  refine tx_V (As := [.int a1, .int a2]) (rest := [.int 0, .ref o]) (w1 := [(o, .inl (cJ, 1, .inr (.inl f)))]) (w2 := []) (wsd := fun u : St × St × St => wL o cJ f b0 qh qs qr cI u.1 u.2.1 u.2.2) ⟨hx, hb, hml, hown, hts⟩ (c_X4_arrive l hfl dC dI cI b0 qh qs qr gh gs gr a1 a2 ok _ hp _) (cwV 2 hts gL_arrive_X4_arrive rfl rfl rfl (by decide +kernel) ⟨Nat.le_of_ble_eq_true rfl, Nat.le_of_ble_eq_true rfl⟩) hP hD hS hA (hK.sub [0] rfl) hN hXS hXH (wL_eq o cJ f b0 qh qs qr cI gh gs gr) (fun u => (wL_eq o cJ f b0 qh qs qr cI u.1 u.2.1 u.2.2).symm) rfl rfl rfl rfl hl.1 (Nat.le_of_ble_eq_true rfl) ⟨Nat.le_of_ble_eq_true rfl, Nat.le_of_ble_eq_true rfl⟩ dL_arrive_5 ?_ ?_
  · intro E ce q9 H locs hpx hP hS hce hcv hcl
    rcases hpx with ⟨rfl, hek⟩ | ⟨rfl, hek⟩
    · refine vx_catch (name := "java/lang/IllegalArgumentException") hown [] (⟨0, 10, 13, 13⟩ : ExceptionTableEntry) [(⟨0, 10, 17, 15⟩ : ExceptionTableEntry)] (htab.trans rfl) (fun z hz => nomatch hz) rfl (by decide) (hts _ kL_arrive_0) (va_Nw.use rfl hXS.2.2.2.2.1) hce hcv hcl ?_
      refine lv_astore (lv' := [(4, .ref q9), (0, .ref b0), (1, .int a1), (2, .int a2), (3, .ref o)]) hx hb dL_arrive_13 hl (by decide) rfl (fun ls hl => ?_)
      refine lv_iconst (v := 1) hx hb dL_arrive_15 (by decide) ?_
      refine W.widen (k := 3) (n := 18) (Nat.le_of_ble_eq_true rfl) (Nat.le_of_ble_eq_true rfl) ?_
      exact W.iret hx hb hr (fun t ht _ => ⟨⟨_, (gh, gs, gr, f), rfl, Or.inr ⟨hek, rfl⟩, by rw [ht]; exact hP, hD⟩, hS.F ht⟩) hS.2.2 dL_arrive_16
    · refine vx_catch (name := "java/lang/IllegalStateException") hown [(⟨0, 10, 13, 13⟩ : ExceptionTableEntry)] (⟨0, 10, 17, 15⟩ : ExceptionTableEntry) [] (htab.trans rfl) (fun z hz => by rw [List.mem_singleton] at hz; subst hz; exact Or.inr ⟨by decide, E_a, hts _ kL_arrive_0, hXS.2.2.2.2.2.2.1⟩) rfl (by decide) (hts _ kL_arrive_1) (va_Nw.use rfl hXS.2.2.2.2.2.1) hce hcv hcl ?_
      refine lv_astore (lv' := [(4, .ref q9), (0, .ref b0), (1, .int a1), (2, .int a2), (3, .ref o)]) hx hb dL_arrive_17 hl (by decide) rfl (fun ls hl => ?_)
      refine lv_iconst (v := 2) hx hb dL_arrive_19 (by decide) ?_
      refine W.widen (k := 3) (n := 18) (Nat.le_of_ble_eq_true rfl) (Nat.le_of_ble_eq_true rfl) ?_
      exact W.iret hx hb hr (fun t ht _ => ⟨⟨_, (gh, gs, gr, f), rfl, Or.inr ⟨hek, rfl⟩, by rw [ht]; exact hP, hD⟩, hS.F ht⟩) hS.2.2 dL_arrive_20
  · intro r u H locs hok hP hD hS
    refine lv_i2l hx hb dL_arrive_8 rfl ?_
    refine va_last hx hb hK hP hD hS 0 1 rfl rfl vp01 dL_arrive_9 (fun H locs hP hD hS => ?_)
    refine lv_goto (tgt := 21) hx hb dL_arrive_10 (by decide) ?_
    refine lv_iconst (v := 0) hx hb dL_arrive_21 (by decide) ?_
    have hP : va_P (dC, dI) vwCl (wL o cJ (vp_updL f (0 : Int32).toNatClampNeg r.toInt64) b0 qh qs qr cI u.1 u.2.1 u.2.2) H := hP
    have hD : va_D A (wL o cJ (vp_updL f (0 : Int32).toNatClampNeg r.toInt64) b0 qh qs qr cI u.1 u.2.1 u.2.2) := hD
    refine W.widen (k := 3) (n := 18) (Nat.le_of_ble_eq_true rfl) (Nat.le_of_ble_eq_true rfl) ?_
    exact W.iret hx hb hr (fun t ht _ => ⟨⟨_, (u.1, u.2.1, u.2.2, vp_updL f (0 : Int32).toNatClampNeg r.toInt64), rfl, Or.inl ⟨rfl, r, show vp_updL f (0 : Int32).toNatClampNeg r.toInt64 (0 : Int32).toNatClampNeg = r.toInt64 from pk_uLs, hok⟩, by rw [ht]; exact hP, hD⟩, hS.F ht⟩) hS.2.2 dL_arrive_22
theorem kL_leave_0 : (.classLink RL 27 "java/lang/IndexOutOfBoundsException" : Cond) ∈ wsL_leave := by decide +kernel
theorem kL_leave_1 : (.classLink RL 15 "java/lang/IllegalStateException" : Cond) ∈ wsL_leave := by decide +kernel
set_option maxRecDepth 100000 in
set_option maxHeartbeats 4000000 in
theorem c_L_leave (l : Launch) (hfl : l.stackTraces = false) (dC : Nat → ClassId) (dI : Nat → Nat → Nat) (cI cJ : ClassId) (o : Nat) (f : Nat → Int64) (b0 : Nat) (qh qs qr : Nat → Nat) (gh gs gr : St) (a1 : Int32) (ok : Int32 → St → St → St → Prop) (ek : Int32 → Prop) (hp : P_X4_leave gh gs gr a1 ok (fun E => (E = E_i ∧ ek 1) ∨ (E = E_s ∧ ek 2))) (sz : Nat) : Met l yL_leave wsL_leave { frames := 8, cells := 2, slots := 12, locals := 159 } (va_Pc [.ref b0, .int a1, .ref o] (tpS (dC, dI) vwCl [(cI, .int), (cJ, .long)] (wL o cJ f b0 qh qs qr cI gh gs gr) sz)) (va_Qi (fun (k : Int32) (u : St × St × St × (Nat → Int64)) => (k = 0 ∧ ∃ r : Int32, u.2.2.2 (0 : Int32).toNatClampNeg = r.toInt64 ∧ ok r u.1 u.2.1 u.2.2.1) ∨ (ek k ∧ u = (gh, gs, gr, f))) (fun u t => wqB (dC, dI) vwCl (wL o cJ u.2.2.2 b0 qh qs qr cI u.1 u.2.1 u.2.2.1) (va_A (wL o cJ f b0 qh qs qr cI gh gs gr) sz) t) (va_A (wL o cJ f b0 qh qs qr cI gh gs gr) sz)) 2 12 (va_A (wL o cJ f b0 qh qs qr cI gh gs gr) sz) := by
  refine tl_met (fun A => (va_Qi (fun (k : Int32) (u : St × St × St × (Nat → Int64)) => (k = 0 ∧ ∃ r : Int32, u.2.2.2 (0 : Int32).toNatClampNeg = r.toInt64 ∧ ok r u.1 u.2.1 u.2.2.1) ∨ (ek k ∧ u = (gh, gs, gr, f))) (fun u t => wqB (dC, dI) vwCl (wL o cJ u.2.2.2 b0 qh qs qr cI u.1 u.2.1 u.2.2.1) A t) A)) (cc := cL_leave) (maxL := 4) (ret := (some .int)) (by decide) rfl (Nat.le_of_ble_eq_true rfl) ?_
  intro p e s m below meth c A hx hb hml hr hlk htab hts hown hP hK hN hD hA hXS hXH ls hl
  have hS : va_S A s.heap s.heap [] := va_S.rf
  have hl : lv_has ls 4 [(0, .ref b0), (1, .int a1), (2, .ref o)] := hl
  refine lv_aload_n hx hb dL_leave_0 rfl (lv_at hl 2 rfl) ?_
  refine lv_iconst (v := 0) hx hb dL_leave_1 (by decide) ?_
  refine lv_aload_n hx hb dL_leave_2 rfl (lv_at hl 0 rfl) ?_
  refine lv_iload_n hx hb dL_leave_3 rfl (lv_at hl 1 rfl) ?_
  refine tx_V (As := [.int a1]) (rest := [.int 0, .ref o]) (w1 := [(o, .inl (cJ, 1, .inr (.inl f)))]) (w2 := []) (wsd := fun u : St × St × St => wL o cJ f b0 qh qs qr cI u.1 u.2.1 u.2.2) ⟨hx, hb, hml, hown, hts⟩ (c_X4_leave l hfl dC dI cI b0 qh qs qr gh gs gr a1 ok _ hp _) (cwV 1 hts gL_leave_X4_leave rfl rfl rfl (by decide +kernel) ⟨Nat.le_of_ble_eq_true rfl, Nat.le_of_ble_eq_true rfl⟩) hP hD hS hA (hK.sub [0] rfl) hN hXS hXH (wL_eq o cJ f b0 qh qs qr cI gh gs gr) (fun u => (wL_eq o cJ f b0 qh qs qr cI u.1 u.2.1 u.2.2).symm) rfl rfl rfl rfl hl.1 (Nat.le_of_ble_eq_true rfl) ⟨Nat.le_of_ble_eq_true rfl, Nat.le_of_ble_eq_true rfl⟩ dL_leave_4 ?_ ?_
  · intro E ce q9 H locs hpx hP hS hce hcv hcl
    rcases hpx with ⟨rfl, hek⟩ | ⟨rfl, hek⟩
    · refine vx_catch (name := "java/lang/IndexOutOfBoundsException") hown [] (⟨0, 9, 12, 27⟩ : ExceptionTableEntry) [(⟨0, 9, 15, 15⟩ : ExceptionTableEntry)] (htab.trans rfl) (fun z hz => nomatch hz) rfl (by decide) (hts _ kL_leave_0) (va_Nw.use rfl hXS.2.2.2.1) hce hcv hcl ?_
      refine lv_astore_n (lv' := [(3, .ref q9), (0, .ref b0), (1, .int a1), (2, .ref o)]) hx hb dL_leave_12 rfl hl (by decide) rfl (fun ls hl => ?_)
      refine lv_iconst (v := 1) hx hb dL_leave_13 (by decide) ?_
      refine W.widen (k := 2) (n := 12) (Nat.le_of_ble_eq_true rfl) (Nat.le_of_ble_eq_true rfl) ?_
      exact W.iret hx hb hr (fun t ht _ => ⟨⟨_, (gh, gs, gr, f), rfl, Or.inr ⟨hek, rfl⟩, by rw [ht]; exact hP, hD⟩, hS.F ht⟩) hS.2.2 dL_leave_14
    · refine vx_catch (name := "java/lang/IllegalStateException") hown [(⟨0, 9, 12, 27⟩ : ExceptionTableEntry)] (⟨0, 9, 15, 15⟩ : ExceptionTableEntry) [] (htab.trans rfl) (fun z hz => by rw [List.mem_singleton] at hz; subst hz; exact Or.inr ⟨by decide, E_i, hts _ kL_leave_0, hXS.2.2.2.2.2.2.2.1⟩) rfl (by decide) (hts _ kL_leave_1) (va_Nw.use rfl hXS.2.2.2.2.2.1) hce hcv hcl ?_
      refine lv_astore_n (lv' := [(3, .ref q9), (0, .ref b0), (1, .int a1), (2, .ref o)]) hx hb dL_leave_15 rfl hl (by decide) rfl (fun ls hl => ?_)
      refine lv_iconst (v := 2) hx hb dL_leave_16 (by decide) ?_
      refine W.widen (k := 2) (n := 12) (Nat.le_of_ble_eq_true rfl) (Nat.le_of_ble_eq_true rfl) ?_
      exact W.iret hx hb hr (fun t ht _ => ⟨⟨_, (gh, gs, gr, f), rfl, Or.inr ⟨hek, rfl⟩, by rw [ht]; exact hP, hD⟩, hS.F ht⟩) hS.2.2 dL_leave_17
  · intro r u H locs hok hP hD hS
    refine lv_i2l hx hb dL_leave_7 rfl ?_
    refine va_last hx hb hK hP hD hS 0 1 rfl rfl vp01 dL_leave_8 (fun H locs hP hD hS => ?_)
    refine lv_goto (tgt := 18) hx hb dL_leave_9 (by decide) ?_
    refine lv_iconst (v := 0) hx hb dL_leave_18 (by decide) ?_
    have hP : va_P (dC, dI) vwCl (wL o cJ (vp_updL f (0 : Int32).toNatClampNeg r.toInt64) b0 qh qs qr cI u.1 u.2.1 u.2.2) H := hP
    have hD : va_D A (wL o cJ (vp_updL f (0 : Int32).toNatClampNeg r.toInt64) b0 qh qs qr cI u.1 u.2.1 u.2.2) := hD
    refine W.widen (k := 2) (n := 12) (Nat.le_of_ble_eq_true rfl) (Nat.le_of_ble_eq_true rfl) ?_
    exact W.iret hx hb hr (fun t ht _ => ⟨⟨_, (u.1, u.2.1, u.2.2, vp_updL f (0 : Int32).toNatClampNeg r.toInt64), rfl, Or.inl ⟨rfl, r, show vp_updL f (0 : Int32).toNatClampNeg r.toInt64 (0 : Int32).toNatClampNeg = r.toInt64 from pk_uLs, hok⟩, by rw [ht]; exact hP, hD⟩, hS.F ht⟩) hS.2.2 dL_leave_19
theorem kL_tableOf_0 : (.classLink RL 27 "java/lang/IndexOutOfBoundsException" : Cond) ∈ wsL_tableOf := by decide +kernel
set_option maxRecDepth 100000 in
set_option maxHeartbeats 4000000 in
theorem c_L_tableOf (l : Launch) (hfl : l.stackTraces = false) (dC : Nat → ClassId) (dI : Nat → Nat → Nat) (cI cJ : ClassId) (o : Nat) (f : Nat → Int64) (b0 : Nat) (qh qs qr : Nat → Nat) (gh gs gr : St) (a1 : Int32) (ok : Int32 → St → St → St → Prop) (ek : Int32 → Prop) (hp : P_X4_tableOf gh gs gr a1 ok (fun E => (E = E_i ∧ ek 1))) (sz : Nat) : Met l yL_tableOf wsL_tableOf { frames := 8, cells := 1, slots := 6, locals := 124 } (va_Pc [.ref b0, .int a1, .ref o] (tpS (dC, dI) vwCl [(cI, .int), (cJ, .long)] (wL o cJ f b0 qh qs qr cI gh gs gr) sz)) (va_Qi (fun (k : Int32) (u : St × St × St × (Nat → Int64)) => (k = 0 ∧ ∃ r : Int32, u.2.2.2 (0 : Int32).toNatClampNeg = r.toInt64 ∧ ok r u.1 u.2.1 u.2.2.1) ∨ (ek k ∧ u = (gh, gs, gr, f))) (fun u t => wqB (dC, dI) vwCl (wL o cJ u.2.2.2 b0 qh qs qr cI u.1 u.2.1 u.2.2.1) (va_A (wL o cJ f b0 qh qs qr cI gh gs gr) sz) t) (va_A (wL o cJ f b0 qh qs qr cI gh gs gr) sz)) 1 6 (va_A (wL o cJ f b0 qh qs qr cI gh gs gr) sz) := by
  refine tl_met (fun A => (va_Qi (fun (k : Int32) (u : St × St × St × (Nat → Int64)) => (k = 0 ∧ ∃ r : Int32, u.2.2.2 (0 : Int32).toNatClampNeg = r.toInt64 ∧ ok r u.1 u.2.1 u.2.2.1) ∨ (ek k ∧ u = (gh, gs, gr, f))) (fun u t => wqB (dC, dI) vwCl (wL o cJ u.2.2.2 b0 qh qs qr cI u.1 u.2.1 u.2.2.1) A t) A)) (cc := cL_tableOf) (maxL := 4) (ret := (some .int)) (by decide) rfl (Nat.le_of_ble_eq_true rfl) ?_
  intro p e s m below meth c A hx hb hml hr hlk htab hts hown hP hK hN hD hA hXS hXH ls hl
  have hS : va_S A s.heap s.heap [] := va_S.rf
  have hl : lv_has ls 4 [(0, .ref b0), (1, .int a1), (2, .ref o)] := hl
  refine lv_aload_n hx hb dL_tableOf_0 rfl (lv_at hl 2 rfl) ?_
  refine lv_iconst (v := 0) hx hb dL_tableOf_1 (by decide) ?_
  refine lv_aload_n hx hb dL_tableOf_2 rfl (lv_at hl 0 rfl) ?_
  refine lv_iload_n hx hb dL_tableOf_3 rfl (lv_at hl 1 rfl) ?_
  refine tx_V (As := [.int a1]) (rest := [.int 0, .ref o]) (w1 := [(o, .inl (cJ, 1, .inr (.inl f)))]) (w2 := []) (wsd := fun u : St × St × St => wL o cJ f b0 qh qs qr cI u.1 u.2.1 u.2.2) ⟨hx, hb, hml, hown, hts⟩ (c_X4_tableOf l hfl dC dI cI b0 qh qs qr gh gs gr a1 ok _ hp _) (cwV 1 hts gL_tableOf_X4_tableOf rfl rfl rfl (by decide +kernel) ⟨Nat.le_of_ble_eq_true rfl, Nat.le_of_ble_eq_true rfl⟩) hP hD hS hA (hK.sub [0] rfl) hN hXS hXH (wL_eq o cJ f b0 qh qs qr cI gh gs gr) (fun u => (wL_eq o cJ f b0 qh qs qr cI u.1 u.2.1 u.2.2).symm) rfl rfl rfl rfl hl.1 (Nat.le_of_ble_eq_true rfl) ⟨Nat.le_of_ble_eq_true rfl, Nat.le_of_ble_eq_true rfl⟩ dL_tableOf_4 ?_ ?_
  · intro E ce q9 H locs hpx hP hS hce hcv hcl
    rcases hpx with ⟨rfl, hek⟩
    · refine vx_catch (name := "java/lang/IndexOutOfBoundsException") hown [] (⟨0, 9, 12, 27⟩ : ExceptionTableEntry) [] (htab.trans rfl) (fun z hz => nomatch hz) rfl (by decide) (hts _ kL_tableOf_0) (va_Nw.use rfl hXS.2.2.2.1) hce hcv hcl ?_
      refine lv_astore_n (lv' := [(3, .ref q9), (0, .ref b0), (1, .int a1), (2, .ref o)]) hx hb dL_tableOf_12 rfl hl (by decide) rfl (fun ls hl => ?_)
      refine lv_iconst (v := 1) hx hb dL_tableOf_13 (by decide) ?_
      refine W.widen (k := 1) (n := 6) (Nat.le_of_ble_eq_true rfl) (Nat.le_of_ble_eq_true rfl) ?_
      exact W.iret hx hb hr (fun t ht _ => ⟨⟨_, (gh, gs, gr, f), rfl, Or.inr ⟨hek, rfl⟩, by rw [ht]; exact hP, hD⟩, hS.F ht⟩) hS.2.2 dL_tableOf_14
  · intro r u H locs hok hP hD hS
    refine lv_i2l hx hb dL_tableOf_7 rfl ?_
    refine va_last hx hb hK hP hD hS 0 1 rfl rfl vp01 dL_tableOf_8 (fun H locs hP hD hS => ?_)
    refine lv_goto (tgt := 15) hx hb dL_tableOf_9 (by decide) ?_
    refine lv_iconst (v := 0) hx hb dL_tableOf_15 (by decide) ?_
    have hP : va_P (dC, dI) vwCl (wL o cJ (vp_updL f (0 : Int32).toNatClampNeg r.toInt64) b0 qh qs qr cI u.1 u.2.1 u.2.2) H := hP
    have hD : va_D A (wL o cJ (vp_updL f (0 : Int32).toNatClampNeg r.toInt64) b0 qh qs qr cI u.1 u.2.1 u.2.2) := hD
    refine W.widen (k := 1) (n := 6) (Nat.le_of_ble_eq_true rfl) (Nat.le_of_ble_eq_true rfl) ?_
    exact W.iret hx hb hr (fun t ht _ => ⟨⟨_, (u.1, u.2.1, u.2.2, vp_updL f (0 : Int32).toNatClampNeg r.toInt64), rfl, Or.inl ⟨rfl, r, show vp_updL f (0 : Int32).toNatClampNeg r.toInt64 (0 : Int32).toNatClampNeg = r.toInt64 from pk_uLs, hok⟩, by rw [ht]; exact hP, hD⟩, hS.F ht⟩) hS.2.2 dL_tableOf_16
theorem kL_tablesOf_0 : (.classLink RL 27 "java/lang/IndexOutOfBoundsException" : Cond) ∈ wsL_tablesOf := by decide +kernel
set_option maxRecDepth 100000 in
set_option maxHeartbeats 4000000 in
theorem c_L_tablesOf (l : Launch) (hfl : l.stackTraces = false) (dC : Nat → ClassId) (dI : Nat → Nat → Nat) (cI cJ : ClassId) (o : Nat) (f : Nat → Int64) (b0 : Nat) (qh qs qr : Nat → Nat) (gh gs gr : St) (a1 : Int32) (ok : Int32 → St → St → St → Prop) (ek : Int32 → Prop) (hp : P_X4_tablesOf gh gs gr a1 ok (fun E => (E = E_i ∧ ek 1))) (sz : Nat) : Met l yL_tablesOf wsL_tablesOf { frames := 8, cells := 1, slots := 6, locals := 124 } (va_Pc [.ref b0, .int a1, .ref o] (tpS (dC, dI) vwCl [(cI, .int), (cJ, .long)] (wL o cJ f b0 qh qs qr cI gh gs gr) sz)) (va_Qi (fun (k : Int32) (u : St × St × St × (Nat → Int64)) => (k = 0 ∧ ∃ r : Int32, u.2.2.2 (0 : Int32).toNatClampNeg = r.toInt64 ∧ ok r u.1 u.2.1 u.2.2.1) ∨ (ek k ∧ u = (gh, gs, gr, f))) (fun u t => wqB (dC, dI) vwCl (wL o cJ u.2.2.2 b0 qh qs qr cI u.1 u.2.1 u.2.2.1) (va_A (wL o cJ f b0 qh qs qr cI gh gs gr) sz) t) (va_A (wL o cJ f b0 qh qs qr cI gh gs gr) sz)) 1 6 (va_A (wL o cJ f b0 qh qs qr cI gh gs gr) sz) := by
  refine tl_met (fun A => (va_Qi (fun (k : Int32) (u : St × St × St × (Nat → Int64)) => (k = 0 ∧ ∃ r : Int32, u.2.2.2 (0 : Int32).toNatClampNeg = r.toInt64 ∧ ok r u.1 u.2.1 u.2.2.1) ∨ (ek k ∧ u = (gh, gs, gr, f))) (fun u t => wqB (dC, dI) vwCl (wL o cJ u.2.2.2 b0 qh qs qr cI u.1 u.2.1 u.2.2.1) A t) A)) (cc := cL_tablesOf) (maxL := 4) (ret := (some .int)) (by decide) rfl (Nat.le_of_ble_eq_true rfl) ?_
  intro p e s m below meth c A hx hb hml hr hlk htab hts hown hP hK hN hD hA hXS hXH ls hl
  have hS : va_S A s.heap s.heap [] := va_S.rf
  have hl : lv_has ls 4 [(0, .ref b0), (1, .int a1), (2, .ref o)] := hl
  refine lv_aload_n hx hb dL_tablesOf_0 rfl (lv_at hl 2 rfl) ?_
  refine lv_iconst (v := 0) hx hb dL_tablesOf_1 (by decide) ?_
  refine lv_aload_n hx hb dL_tablesOf_2 rfl (lv_at hl 0 rfl) ?_
  refine lv_iload_n hx hb dL_tablesOf_3 rfl (lv_at hl 1 rfl) ?_
  refine tx_V (As := [.int a1]) (rest := [.int 0, .ref o]) (w1 := [(o, .inl (cJ, 1, .inr (.inl f)))]) (w2 := []) (wsd := fun u : St × St × St => wL o cJ f b0 qh qs qr cI u.1 u.2.1 u.2.2) ⟨hx, hb, hml, hown, hts⟩ (c_X4_tablesOf l hfl dC dI cI b0 qh qs qr gh gs gr a1 ok _ hp _) (cwV 1 hts gL_tablesOf_X4_tablesOf rfl rfl rfl (by decide +kernel) ⟨Nat.le_of_ble_eq_true rfl, Nat.le_of_ble_eq_true rfl⟩) hP hD hS hA (hK.sub [0] rfl) hN hXS hXH (wL_eq o cJ f b0 qh qs qr cI gh gs gr) (fun u => (wL_eq o cJ f b0 qh qs qr cI u.1 u.2.1 u.2.2).symm) rfl rfl rfl rfl hl.1 (Nat.le_of_ble_eq_true rfl) ⟨Nat.le_of_ble_eq_true rfl, Nat.le_of_ble_eq_true rfl⟩ dL_tablesOf_4 ?_ ?_
  · intro E ce q9 H locs hpx hP hS hce hcv hcl
    rcases hpx with ⟨rfl, hek⟩
    · refine vx_catch (name := "java/lang/IndexOutOfBoundsException") hown [] (⟨0, 9, 12, 27⟩ : ExceptionTableEntry) [] (htab.trans rfl) (fun z hz => nomatch hz) rfl (by decide) (hts _ kL_tablesOf_0) (va_Nw.use rfl hXS.2.2.2.1) hce hcv hcl ?_
      refine lv_astore_n (lv' := [(3, .ref q9), (0, .ref b0), (1, .int a1), (2, .ref o)]) hx hb dL_tablesOf_12 rfl hl (by decide) rfl (fun ls hl => ?_)
      refine lv_iconst (v := 1) hx hb dL_tablesOf_13 (by decide) ?_
      refine W.widen (k := 1) (n := 6) (Nat.le_of_ble_eq_true rfl) (Nat.le_of_ble_eq_true rfl) ?_
      exact W.iret hx hb hr (fun t ht _ => ⟨⟨_, (gh, gs, gr, f), rfl, Or.inr ⟨hek, rfl⟩, by rw [ht]; exact hP, hD⟩, hS.F ht⟩) hS.2.2 dL_tablesOf_14
  · intro r u H locs hok hP hD hS
    refine lv_i2l hx hb dL_tablesOf_7 rfl ?_
    refine va_last hx hb hK hP hD hS 0 1 rfl rfl vp01 dL_tablesOf_8 (fun H locs hP hD hS => ?_)
    refine lv_goto (tgt := 15) hx hb dL_tablesOf_9 (by decide) ?_
    refine lv_iconst (v := 0) hx hb dL_tablesOf_15 (by decide) ?_
    have hP : va_P (dC, dI) vwCl (wL o cJ (vp_updL f (0 : Int32).toNatClampNeg r.toInt64) b0 qh qs qr cI u.1 u.2.1 u.2.2) H := hP
    have hD : va_D A (wL o cJ (vp_updL f (0 : Int32).toNatClampNeg r.toInt64) b0 qh qs qr cI u.1 u.2.1 u.2.2) := hD
    refine W.widen (k := 1) (n := 6) (Nat.le_of_ble_eq_true rfl) (Nat.le_of_ble_eq_true rfl) ?_
    exact W.iret hx hb hr (fun t ht _ => ⟨⟨_, (u.1, u.2.1, u.2.2, vp_updL f (0 : Int32).toNatClampNeg r.toInt64), rfl, Or.inl ⟨rfl, r, show vp_updL f (0 : Int32).toNatClampNeg r.toInt64 (0 : Int32).toNatClampNeg = r.toInt64 from pk_uLs, hok⟩, by rw [ht]; exact hP, hD⟩, hS.F ht⟩) hS.2.2 dL_tablesOf_16
theorem kL_waste_0 : (.classLink RL 13 "java/lang/IllegalArgumentException" : Cond) ∈ wsL_waste := by decide +kernel
set_option maxRecDepth 100000 in
set_option maxHeartbeats 4000000 in
theorem c_L_waste (l : Launch) (hfl : l.stackTraces = false) (dC : Nat → ClassId) (dI : Nat → Nat → Nat) (cI cJ : ClassId) (o : Nat) (f : Nat → Int64) (b0 : Nat) (qh qs qr : Nat → Nat) (gh gs gr : St) (a1 : Int32) (ok : Int32 → St → St → St → Prop) (ek : Int32 → Prop) (hp : P_X4_waste gh gs gr a1 ok (fun E => (E = E_a ∧ ek 1))) (sz : Nat) : Met l yL_waste wsL_waste { frames := 8, cells := 1, slots := 6, locals := 125 } (va_Pc [.ref b0, .int a1, .ref o] (tpS (dC, dI) vwCl [(cI, .int), (cJ, .long)] (wL o cJ f b0 qh qs qr cI gh gs gr) sz)) (va_Qi (fun (k : Int32) (u : St × St × St × (Nat → Int64)) => (k = 0 ∧ ∃ r : Int32, u.2.2.2 (0 : Int32).toNatClampNeg = r.toInt64 ∧ ok r u.1 u.2.1 u.2.2.1) ∨ (ek k ∧ u = (gh, gs, gr, f))) (fun u t => wqB (dC, dI) vwCl (wL o cJ u.2.2.2 b0 qh qs qr cI u.1 u.2.1 u.2.2.1) (va_A (wL o cJ f b0 qh qs qr cI gh gs gr) sz) t) (va_A (wL o cJ f b0 qh qs qr cI gh gs gr) sz)) 1 6 (va_A (wL o cJ f b0 qh qs qr cI gh gs gr) sz) := by
  refine tl_met (fun A => (va_Qi (fun (k : Int32) (u : St × St × St × (Nat → Int64)) => (k = 0 ∧ ∃ r : Int32, u.2.2.2 (0 : Int32).toNatClampNeg = r.toInt64 ∧ ok r u.1 u.2.1 u.2.2.1) ∨ (ek k ∧ u = (gh, gs, gr, f))) (fun u t => wqB (dC, dI) vwCl (wL o cJ u.2.2.2 b0 qh qs qr cI u.1 u.2.1 u.2.2.1) A t) A)) (cc := cL_waste) (maxL := 4) (ret := (some .int)) (by decide) rfl (Nat.le_of_ble_eq_true rfl) ?_
  intro p e s m below meth c A hx hb hml hr hlk htab hts hown hP hK hN hD hA hXS hXH ls hl
  have hS : va_S A s.heap s.heap [] := va_S.rf
  have hl : lv_has ls 4 [(0, .ref b0), (1, .int a1), (2, .ref o)] := hl
  refine lv_aload_n hx hb dL_waste_0 rfl (lv_at hl 2 rfl) ?_
  refine lv_iconst (v := 0) hx hb dL_waste_1 (by decide) ?_
  refine lv_aload_n hx hb dL_waste_2 rfl (lv_at hl 0 rfl) ?_
  refine lv_iload_n hx hb dL_waste_3 rfl (lv_at hl 1 rfl) ?_
  refine tx_V (As := [.int a1]) (rest := [.int 0, .ref o]) (w1 := [(o, .inl (cJ, 1, .inr (.inl f)))]) (w2 := []) (wsd := fun u : St × St × St => wL o cJ f b0 qh qs qr cI u.1 u.2.1 u.2.2) ⟨hx, hb, hml, hown, hts⟩ (c_X4_waste l hfl dC dI cI b0 qh qs qr gh gs gr a1 ok _ hp _) (cwV 1 hts gL_waste_X4_waste rfl rfl rfl (by decide +kernel) ⟨Nat.le_of_ble_eq_true rfl, Nat.le_of_ble_eq_true rfl⟩) hP hD hS hA (hK.sub [0] rfl) hN hXS hXH (wL_eq o cJ f b0 qh qs qr cI gh gs gr) (fun u => (wL_eq o cJ f b0 qh qs qr cI u.1 u.2.1 u.2.2).symm) rfl rfl rfl rfl hl.1 (Nat.le_of_ble_eq_true rfl) ⟨Nat.le_of_ble_eq_true rfl, Nat.le_of_ble_eq_true rfl⟩ dL_waste_4 ?_ ?_
  · intro E ce q9 H locs hpx hP hS hce hcv hcl
    rcases hpx with ⟨rfl, hek⟩
    · refine vx_catch (name := "java/lang/IllegalArgumentException") hown [] (⟨0, 9, 12, 13⟩ : ExceptionTableEntry) [] (htab.trans rfl) (fun z hz => nomatch hz) rfl (by decide) (hts _ kL_waste_0) (va_Nw.use rfl hXS.2.2.2.2.1) hce hcv hcl ?_
      refine lv_astore_n (lv' := [(3, .ref q9), (0, .ref b0), (1, .int a1), (2, .ref o)]) hx hb dL_waste_12 rfl hl (by decide) rfl (fun ls hl => ?_)
      refine lv_iconst (v := 1) hx hb dL_waste_13 (by decide) ?_
      refine W.widen (k := 1) (n := 6) (Nat.le_of_ble_eq_true rfl) (Nat.le_of_ble_eq_true rfl) ?_
      exact W.iret hx hb hr (fun t ht _ => ⟨⟨_, (gh, gs, gr, f), rfl, Or.inr ⟨hek, rfl⟩, by rw [ht]; exact hP, hD⟩, hS.F ht⟩) hS.2.2 dL_waste_14
  · intro r u H locs hok hP hD hS
    refine lv_i2l hx hb dL_waste_7 rfl ?_
    refine va_last hx hb hK hP hD hS 0 1 rfl rfl vp01 dL_waste_8 (fun H locs hP hD hS => ?_)
    refine lv_goto (tgt := 15) hx hb dL_waste_9 (by decide) ?_
    refine lv_iconst (v := 0) hx hb dL_waste_15 (by decide) ?_
    have hP : va_P (dC, dI) vwCl (wL o cJ (vp_updL f (0 : Int32).toNatClampNeg r.toInt64) b0 qh qs qr cI u.1 u.2.1 u.2.2) H := hP
    have hD : va_D A (wL o cJ (vp_updL f (0 : Int32).toNatClampNeg r.toInt64) b0 qh qs qr cI u.1 u.2.1 u.2.2) := hD
    refine W.widen (k := 1) (n := 6) (Nat.le_of_ble_eq_true rfl) (Nat.le_of_ble_eq_true rfl) ?_
    exact W.iret hx hb hr (fun t ht _ => ⟨⟨_, (u.1, u.2.1, u.2.2, vp_updL f (0 : Int32).toNatClampNeg r.toInt64), rfl, Or.inl ⟨rfl, r, show vp_updL f (0 : Int32).toNatClampNeg r.toInt64 (0 : Int32).toNatClampNeg = r.toInt64 from pk_uLs, hok⟩, by rw [ht]; exact hP, hD⟩, hS.F ht⟩) hS.2.2 dL_waste_16
theorem kL_wasteByAll_0 : (.classLink RL 13 "java/lang/IllegalArgumentException" : Cond) ∈ wsL_wasteByAll := by decide +kernel
set_option maxRecDepth 100000 in
set_option maxHeartbeats 4000000 in
theorem c_L_wasteByAll (l : Launch) (hfl : l.stackTraces = false) (dC : Nat → ClassId) (dI : Nat → Nat → Nat) (cI cJ : ClassId) (o : Nat) (f : Nat → Int64) (b0 : Nat) (qh qs qr : Nat → Nat) (gh gs gr : St) (a1 : Int32) (ok : Int32 → St → St → St → Prop) (ek : Int32 → Prop) (hp : P_X4_wasteByAll gh gs gr a1 ok (fun E => (E = E_a ∧ ek 1))) (sz : Nat) : Met l yL_wasteByAll wsL_wasteByAll { frames := 8, cells := 1, slots := 6, locals := 125 } (va_Pc [.ref b0, .int a1, .ref o] (tpS (dC, dI) vwCl [(cI, .int), (cJ, .long)] (wL o cJ f b0 qh qs qr cI gh gs gr) sz)) (va_Qi (fun (k : Int32) (u : St × St × St × (Nat → Int64)) => (k = 0 ∧ ∃ r : Int32, u.2.2.2 (0 : Int32).toNatClampNeg = r.toInt64 ∧ ok r u.1 u.2.1 u.2.2.1) ∨ (ek k ∧ u = (gh, gs, gr, f))) (fun u t => wqB (dC, dI) vwCl (wL o cJ u.2.2.2 b0 qh qs qr cI u.1 u.2.1 u.2.2.1) (va_A (wL o cJ f b0 qh qs qr cI gh gs gr) sz) t) (va_A (wL o cJ f b0 qh qs qr cI gh gs gr) sz)) 1 6 (va_A (wL o cJ f b0 qh qs qr cI gh gs gr) sz) := by
  refine tl_met (fun A => (va_Qi (fun (k : Int32) (u : St × St × St × (Nat → Int64)) => (k = 0 ∧ ∃ r : Int32, u.2.2.2 (0 : Int32).toNatClampNeg = r.toInt64 ∧ ok r u.1 u.2.1 u.2.2.1) ∨ (ek k ∧ u = (gh, gs, gr, f))) (fun u t => wqB (dC, dI) vwCl (wL o cJ u.2.2.2 b0 qh qs qr cI u.1 u.2.1 u.2.2.1) A t) A)) (cc := cL_wasteByAll) (maxL := 4) (ret := (some .int)) (by decide) rfl (Nat.le_of_ble_eq_true rfl) ?_
  intro p e s m below meth c A hx hb hml hr hlk htab hts hown hP hK hN hD hA hXS hXH ls hl
  have hS : va_S A s.heap s.heap [] := va_S.rf
  have hl : lv_has ls 4 [(0, .ref b0), (1, .int a1), (2, .ref o)] := hl
  refine lv_aload_n hx hb dL_wasteByAll_0 rfl (lv_at hl 2 rfl) ?_
  refine lv_iconst (v := 0) hx hb dL_wasteByAll_1 (by decide) ?_
  refine lv_aload_n hx hb dL_wasteByAll_2 rfl (lv_at hl 0 rfl) ?_
  refine lv_iload_n hx hb dL_wasteByAll_3 rfl (lv_at hl 1 rfl) ?_
  refine tx_V (As := [.int a1]) (rest := [.int 0, .ref o]) (w1 := [(o, .inl (cJ, 1, .inr (.inl f)))]) (w2 := []) (wsd := fun u : St × St × St => wL o cJ f b0 qh qs qr cI u.1 u.2.1 u.2.2) ⟨hx, hb, hml, hown, hts⟩ (c_X4_wasteByAll l hfl dC dI cI b0 qh qs qr gh gs gr a1 ok _ hp _) (cwV 1 hts gL_wasteByAll_X4_wasteByAll rfl rfl rfl (by decide +kernel) ⟨Nat.le_of_ble_eq_true rfl, Nat.le_of_ble_eq_true rfl⟩) hP hD hS hA (hK.sub [0] rfl) hN hXS hXH (wL_eq o cJ f b0 qh qs qr cI gh gs gr) (fun u => (wL_eq o cJ f b0 qh qs qr cI u.1 u.2.1 u.2.2).symm) rfl rfl rfl rfl hl.1 (Nat.le_of_ble_eq_true rfl) ⟨Nat.le_of_ble_eq_true rfl, Nat.le_of_ble_eq_true rfl⟩ dL_wasteByAll_4 ?_ ?_
  · intro E ce q9 H locs hpx hP hS hce hcv hcl
    rcases hpx with ⟨rfl, hek⟩
    · refine vx_catch (name := "java/lang/IllegalArgumentException") hown [] (⟨0, 9, 12, 13⟩ : ExceptionTableEntry) [] (htab.trans rfl) (fun z hz => nomatch hz) rfl (by decide) (hts _ kL_wasteByAll_0) (va_Nw.use rfl hXS.2.2.2.2.1) hce hcv hcl ?_
      refine lv_astore_n (lv' := [(3, .ref q9), (0, .ref b0), (1, .int a1), (2, .ref o)]) hx hb dL_wasteByAll_12 rfl hl (by decide) rfl (fun ls hl => ?_)
      refine lv_iconst (v := 1) hx hb dL_wasteByAll_13 (by decide) ?_
      refine W.widen (k := 1) (n := 6) (Nat.le_of_ble_eq_true rfl) (Nat.le_of_ble_eq_true rfl) ?_
      exact W.iret hx hb hr (fun t ht _ => ⟨⟨_, (gh, gs, gr, f), rfl, Or.inr ⟨hek, rfl⟩, by rw [ht]; exact hP, hD⟩, hS.F ht⟩) hS.2.2 dL_wasteByAll_14
  · intro r u H locs hok hP hD hS
    refine lv_i2l hx hb dL_wasteByAll_7 rfl ?_
    refine va_last hx hb hK hP hD hS 0 1 rfl rfl vp01 dL_wasteByAll_8 (fun H locs hP hD hS => ?_)
    refine lv_goto (tgt := 15) hx hb dL_wasteByAll_9 (by decide) ?_
    refine lv_iconst (v := 0) hx hb dL_wasteByAll_15 (by decide) ?_
    have hP : va_P (dC, dI) vwCl (wL o cJ (vp_updL f (0 : Int32).toNatClampNeg r.toInt64) b0 qh qs qr cI u.1 u.2.1 u.2.2) H := hP
    have hD : va_D A (wL o cJ (vp_updL f (0 : Int32).toNatClampNeg r.toInt64) b0 qh qs qr cI u.1 u.2.1 u.2.2) := hD
    refine W.widen (k := 1) (n := 6) (Nat.le_of_ble_eq_true rfl) (Nat.le_of_ble_eq_true rfl) ?_
    exact W.iret hx hb hr (fun t ht _ => ⟨⟨_, (u.1, u.2.1, u.2.2, vp_updL f (0 : Int32).toNatClampNeg r.toInt64), rfl, Or.inl ⟨rfl, r, show vp_updL f (0 : Int32).toNatClampNeg r.toInt64 (0 : Int32).toNatClampNeg = r.toInt64 from pk_uLs, hok⟩, by rw [ht]; exact hP, hD⟩, hS.F ht⟩) hS.2.2 dL_wasteByAll_16
theorem kL_left_0 : (.classLink RL 27 "java/lang/IndexOutOfBoundsException" : Cond) ∈ wsL_left := by decide +kernel
theorem kL_left_1 : (.classLink RL 15 "java/lang/IllegalStateException" : Cond) ∈ wsL_left := by decide +kernel
set_option maxRecDepth 100000 in
set_option maxHeartbeats 4000000 in
theorem c_L_left (l : Launch) (hfl : l.stackTraces = false) (dC : Nat → ClassId) (dI : Nat → Nat → Nat) (cI cJ : ClassId) (o : Nat) (f : Nat → Int64) (b0 : Nat) (qh qs qr : Nat → Nat) (gh gs gr : St) (a1 : Int32) (ok : Int32 → St → St → St → Prop) (ek : Int32 → Prop) (hp : P_X4_left gh gs gr a1 ok (fun E => (E = E_i ∧ ek 1) ∨ (E = E_s ∧ ek 2))) (sz : Nat) : Met l yL_left wsL_left { frames := 8, cells := 2, slots := 12, locals := 124 } (va_Pc [.ref b0, .int a1, .ref o] (tpS (dC, dI) vwCl [(cI, .int), (cJ, .long)] (wL o cJ f b0 qh qs qr cI gh gs gr) sz)) (va_Qi (fun (k : Int32) (u : St × St × St × (Nat → Int64)) => (k = 0 ∧ ∃ r : Int32, u.2.2.2 (0 : Int32).toNatClampNeg = r.toInt64 ∧ ok r u.1 u.2.1 u.2.2.1) ∨ (ek k ∧ u = (gh, gs, gr, f))) (fun u t => wqB (dC, dI) vwCl (wL o cJ u.2.2.2 b0 qh qs qr cI u.1 u.2.1 u.2.2.1) (va_A (wL o cJ f b0 qh qs qr cI gh gs gr) sz) t) (va_A (wL o cJ f b0 qh qs qr cI gh gs gr) sz)) 2 12 (va_A (wL o cJ f b0 qh qs qr cI gh gs gr) sz) := by
  refine tl_met (fun A => (va_Qi (fun (k : Int32) (u : St × St × St × (Nat → Int64)) => (k = 0 ∧ ∃ r : Int32, u.2.2.2 (0 : Int32).toNatClampNeg = r.toInt64 ∧ ok r u.1 u.2.1 u.2.2.1) ∨ (ek k ∧ u = (gh, gs, gr, f))) (fun u t => wqB (dC, dI) vwCl (wL o cJ u.2.2.2 b0 qh qs qr cI u.1 u.2.1 u.2.2.1) A t) A)) (cc := cL_left) (maxL := 4) (ret := (some .int)) (by decide) rfl (Nat.le_of_ble_eq_true rfl) ?_
  intro p e s m below meth c A hx hb hml hr hlk htab hts hown hP hK hN hD hA hXS hXH ls hl
  have hS : va_S A s.heap s.heap [] := va_S.rf
  have hl : lv_has ls 4 [(0, .ref b0), (1, .int a1), (2, .ref o)] := hl
  refine lv_aload_n hx hb dL_left_0 rfl (lv_at hl 2 rfl) ?_
  refine lv_iconst (v := 0) hx hb dL_left_1 (by decide) ?_
  refine lv_aload_n hx hb dL_left_2 rfl (lv_at hl 0 rfl) ?_
  refine lv_iload_n hx hb dL_left_3 rfl (lv_at hl 1 rfl) ?_
  refine tx_V (As := [.int a1]) (rest := [.int 0, .ref o]) (w1 := [(o, .inl (cJ, 1, .inr (.inl f)))]) (w2 := []) (wsd := fun u : St × St × St => wL o cJ f b0 qh qs qr cI u.1 u.2.1 u.2.2) ⟨hx, hb, hml, hown, hts⟩ (c_X4_left l hfl dC dI cI b0 qh qs qr gh gs gr a1 ok _ hp _) (cwV 1 hts gL_left_X4_left rfl rfl rfl (by decide +kernel) ⟨Nat.le_of_ble_eq_true rfl, Nat.le_of_ble_eq_true rfl⟩) hP hD hS hA (hK.sub [0] rfl) hN hXS hXH (wL_eq o cJ f b0 qh qs qr cI gh gs gr) (fun u => (wL_eq o cJ f b0 qh qs qr cI u.1 u.2.1 u.2.2).symm) rfl rfl rfl rfl hl.1 (Nat.le_of_ble_eq_true rfl) ⟨Nat.le_of_ble_eq_true rfl, Nat.le_of_ble_eq_true rfl⟩ dL_left_4 ?_ ?_
  · intro E ce q9 H locs hpx hP hS hce hcv hcl
    rcases hpx with ⟨rfl, hek⟩ | ⟨rfl, hek⟩
    · refine vx_catch (name := "java/lang/IndexOutOfBoundsException") hown [] (⟨0, 9, 12, 27⟩ : ExceptionTableEntry) [(⟨0, 9, 15, 15⟩ : ExceptionTableEntry)] (htab.trans rfl) (fun z hz => nomatch hz) rfl (by decide) (hts _ kL_left_0) (va_Nw.use rfl hXS.2.2.2.1) hce hcv hcl ?_
      refine lv_astore_n (lv' := [(3, .ref q9), (0, .ref b0), (1, .int a1), (2, .ref o)]) hx hb dL_left_12 rfl hl (by decide) rfl (fun ls hl => ?_)
      refine lv_iconst (v := 1) hx hb dL_left_13 (by decide) ?_
      refine W.widen (k := 2) (n := 12) (Nat.le_of_ble_eq_true rfl) (Nat.le_of_ble_eq_true rfl) ?_
      exact W.iret hx hb hr (fun t ht _ => ⟨⟨_, (gh, gs, gr, f), rfl, Or.inr ⟨hek, rfl⟩, by rw [ht]; exact hP, hD⟩, hS.F ht⟩) hS.2.2 dL_left_14
    · refine vx_catch (name := "java/lang/IllegalStateException") hown [(⟨0, 9, 12, 27⟩ : ExceptionTableEntry)] (⟨0, 9, 15, 15⟩ : ExceptionTableEntry) [] (htab.trans rfl) (fun z hz => by rw [List.mem_singleton] at hz; subst hz; exact Or.inr ⟨by decide, E_i, hts _ kL_left_0, hXS.2.2.2.2.2.2.2.1⟩) rfl (by decide) (hts _ kL_left_1) (va_Nw.use rfl hXS.2.2.2.2.2.1) hce hcv hcl ?_
      refine lv_astore_n (lv' := [(3, .ref q9), (0, .ref b0), (1, .int a1), (2, .ref o)]) hx hb dL_left_15 rfl hl (by decide) rfl (fun ls hl => ?_)
      refine lv_iconst (v := 2) hx hb dL_left_16 (by decide) ?_
      refine W.widen (k := 2) (n := 12) (Nat.le_of_ble_eq_true rfl) (Nat.le_of_ble_eq_true rfl) ?_
      exact W.iret hx hb hr (fun t ht _ => ⟨⟨_, (gh, gs, gr, f), rfl, Or.inr ⟨hek, rfl⟩, by rw [ht]; exact hP, hD⟩, hS.F ht⟩) hS.2.2 dL_left_17
  · intro r u H locs hok hP hD hS
    refine lv_i2l hx hb dL_left_7 rfl ?_
    refine va_last hx hb hK hP hD hS 0 1 rfl rfl vp01 dL_left_8 (fun H locs hP hD hS => ?_)
    refine lv_goto (tgt := 18) hx hb dL_left_9 (by decide) ?_
    refine lv_iconst (v := 0) hx hb dL_left_18 (by decide) ?_
    have hP : va_P (dC, dI) vwCl (wL o cJ (vp_updL f (0 : Int32).toNatClampNeg r.toInt64) b0 qh qs qr cI u.1 u.2.1 u.2.2) H := hP
    have hD : va_D A (wL o cJ (vp_updL f (0 : Int32).toNatClampNeg r.toInt64) b0 qh qs qr cI u.1 u.2.1 u.2.2) := hD
    refine W.widen (k := 2) (n := 12) (Nat.le_of_ble_eq_true rfl) (Nat.le_of_ble_eq_true rfl) ?_
    exact W.iret hx hb hr (fun t ht _ => ⟨⟨_, (u.1, u.2.1, u.2.2, vp_updL f (0 : Int32).toNatClampNeg r.toInt64), rfl, Or.inl ⟨rfl, r, show vp_updL f (0 : Int32).toNatClampNeg r.toInt64 (0 : Int32).toNatClampNeg = r.toInt64 from pk_uLs, hok⟩, by rw [ht]; exact hP, hD⟩, hS.F ht⟩) hS.2.2 dL_left_19
theorem kL_offers_0 : (.classLink RL 27 "java/lang/IndexOutOfBoundsException" : Cond) ∈ wsL_offers := by decide +kernel
set_option maxRecDepth 100000 in
set_option maxHeartbeats 4000000 in
theorem c_L_offers (l : Launch) (hfl : l.stackTraces = false) (dC : Nat → ClassId) (dI : Nat → Nat → Nat) (cI cJ : ClassId) (o : Nat) (f : Nat → Int64) (b0 : Nat) (qh qs qr : Nat → Nat) (gh gs gr : St) (a1 : Int32) (ok : Int32 → St → St → St → Prop) (ek : Int32 → Prop) (hp : P_X4_offers gh gs gr a1 ok (fun E => (E = E_i ∧ ek 1))) (sz : Nat) : Met l yL_offers wsL_offers { frames := 8, cells := 1, slots := 6, locals := 159 } (va_Pc [.ref b0, .int a1, .ref o] (tpS (dC, dI) vwCl [(cI, .int), (cJ, .long)] (wL o cJ f b0 qh qs qr cI gh gs gr) sz)) (va_Qi (fun (k : Int32) (u : St × St × St × (Nat → Int64)) => (k = 0 ∧ ∃ r : Int32, u.2.2.2 (0 : Int32).toNatClampNeg = r.toInt64 ∧ ok r u.1 u.2.1 u.2.2.1) ∨ (ek k ∧ u = (gh, gs, gr, f))) (fun u t => wqB (dC, dI) vwCl (wL o cJ u.2.2.2 b0 qh qs qr cI u.1 u.2.1 u.2.2.1) (va_A (wL o cJ f b0 qh qs qr cI gh gs gr) sz) t) (va_A (wL o cJ f b0 qh qs qr cI gh gs gr) sz)) 1 6 (va_A (wL o cJ f b0 qh qs qr cI gh gs gr) sz) := by
  refine tl_met (fun A => (va_Qi (fun (k : Int32) (u : St × St × St × (Nat → Int64)) => (k = 0 ∧ ∃ r : Int32, u.2.2.2 (0 : Int32).toNatClampNeg = r.toInt64 ∧ ok r u.1 u.2.1 u.2.2.1) ∨ (ek k ∧ u = (gh, gs, gr, f))) (fun u t => wqB (dC, dI) vwCl (wL o cJ u.2.2.2 b0 qh qs qr cI u.1 u.2.1 u.2.2.1) A t) A)) (cc := cL_offers) (maxL := 4) (ret := (some .int)) (by decide) rfl (Nat.le_of_ble_eq_true rfl) ?_
  intro p e s m below meth c A hx hb hml hr hlk htab hts hown hP hK hN hD hA hXS hXH ls hl
  have hS : va_S A s.heap s.heap [] := va_S.rf
  have hl : lv_has ls 4 [(0, .ref b0), (1, .int a1), (2, .ref o)] := hl
  refine lv_aload_n hx hb dL_offers_0 rfl (lv_at hl 2 rfl) ?_
  refine lv_iconst (v := 0) hx hb dL_offers_1 (by decide) ?_
  refine lv_aload_n hx hb dL_offers_2 rfl (lv_at hl 0 rfl) ?_
  refine lv_iload_n hx hb dL_offers_3 rfl (lv_at hl 1 rfl) ?_
  refine tx_V (As := [.int a1]) (rest := [.int 0, .ref o]) (w1 := [(o, .inl (cJ, 1, .inr (.inl f)))]) (w2 := []) (wsd := fun u : St × St × St => wL o cJ f b0 qh qs qr cI u.1 u.2.1 u.2.2) ⟨hx, hb, hml, hown, hts⟩ (c_X4_offers l hfl dC dI cI b0 qh qs qr gh gs gr a1 ok _ hp _) (cwV 1 hts gL_offers_X4_offers rfl rfl rfl (by decide +kernel) ⟨Nat.le_of_ble_eq_true rfl, Nat.le_of_ble_eq_true rfl⟩) hP hD hS hA (hK.sub [0] rfl) hN hXS hXH (wL_eq o cJ f b0 qh qs qr cI gh gs gr) (fun u => (wL_eq o cJ f b0 qh qs qr cI u.1 u.2.1 u.2.2).symm) rfl rfl rfl rfl hl.1 (Nat.le_of_ble_eq_true rfl) ⟨Nat.le_of_ble_eq_true rfl, Nat.le_of_ble_eq_true rfl⟩ dL_offers_4 ?_ ?_
  · intro E ce q9 H locs hpx hP hS hce hcv hcl
    rcases hpx with ⟨rfl, hek⟩
    · refine vx_catch (name := "java/lang/IndexOutOfBoundsException") hown [] (⟨0, 9, 12, 27⟩ : ExceptionTableEntry) [] (htab.trans rfl) (fun z hz => nomatch hz) rfl (by decide) (hts _ kL_offers_0) (va_Nw.use rfl hXS.2.2.2.1) hce hcv hcl ?_
      refine lv_astore_n (lv' := [(3, .ref q9), (0, .ref b0), (1, .int a1), (2, .ref o)]) hx hb dL_offers_12 rfl hl (by decide) rfl (fun ls hl => ?_)
      refine lv_iconst (v := 1) hx hb dL_offers_13 (by decide) ?_
      refine W.widen (k := 1) (n := 6) (Nat.le_of_ble_eq_true rfl) (Nat.le_of_ble_eq_true rfl) ?_
      exact W.iret hx hb hr (fun t ht _ => ⟨⟨_, (gh, gs, gr, f), rfl, Or.inr ⟨hek, rfl⟩, by rw [ht]; exact hP, hD⟩, hS.F ht⟩) hS.2.2 dL_offers_14
  · intro r u H locs hok hP hD hS
    refine lv_i2l hx hb dL_offers_7 rfl ?_
    refine va_last hx hb hK hP hD hS 0 1 rfl rfl vp01 dL_offers_8 (fun H locs hP hD hS => ?_)
    refine lv_goto (tgt := 15) hx hb dL_offers_9 (by decide) ?_
    refine lv_iconst (v := 0) hx hb dL_offers_15 (by decide) ?_
    have hP : va_P (dC, dI) vwCl (wL o cJ (vp_updL f (0 : Int32).toNatClampNeg r.toInt64) b0 qh qs qr cI u.1 u.2.1 u.2.2) H := hP
    have hD : va_D A (wL o cJ (vp_updL f (0 : Int32).toNatClampNeg r.toInt64) b0 qh qs qr cI u.1 u.2.1 u.2.2) := hD
    refine W.widen (k := 1) (n := 6) (Nat.le_of_ble_eq_true rfl) (Nat.le_of_ble_eq_true rfl) ?_
    exact W.iret hx hb hr (fun t ht _ => ⟨⟨_, (u.1, u.2.1, u.2.2, vp_updL f (0 : Int32).toNatClampNeg r.toInt64), rfl, Or.inl ⟨rfl, r, show vp_updL f (0 : Int32).toNatClampNeg r.toInt64 (0 : Int32).toNatClampNeg = r.toInt64 from pk_uLs, hok⟩, by rw [ht]; exact hP, hD⟩, hS.F ht⟩) hS.2.2 dL_offers_16
theorem kL_offerAt_0 : (.classLink RL 27 "java/lang/IndexOutOfBoundsException" : Cond) ∈ wsL_offerAt := by decide +kernel
set_option maxRecDepth 100000 in
set_option maxHeartbeats 4000000 in
theorem c_L_offerAt (l : Launch) (hfl : l.stackTraces = false) (dC : Nat → ClassId) (dI : Nat → Nat → Nat) (cI cJ : ClassId) (o : Nat) (f : Nat → Int64) (b0 : Nat) (qh qs qr : Nat → Nat) (gh gs gr : St) (a1 : Int32) (a2 : Int32) (ok : Int32 → St → St → St → Prop) (ek : Int32 → Prop) (hp : P_X4_offerAt gh gs gr a1 a2 ok (fun E => (E = E_i ∧ ek 1))) (sz : Nat) : Met l yL_offerAt wsL_offerAt { frames := 8, cells := 2, slots := 12, locals := 161 } (va_Pc [.ref b0, .int a1, .int a2, .ref o] (tpS (dC, dI) vwCl [(cI, .int), (cJ, .long)] (wL o cJ f b0 qh qs qr cI gh gs gr) sz)) (va_Qi (fun (k : Int32) (u : St × St × St × (Nat → Int64)) => (k = 0 ∧ ∃ r : Int32, u.2.2.2 (0 : Int32).toNatClampNeg = r.toInt64 ∧ ok r u.1 u.2.1 u.2.2.1) ∨ (ek k ∧ u = (gh, gs, gr, f))) (fun u t => wqB (dC, dI) vwCl (wL o cJ u.2.2.2 b0 qh qs qr cI u.1 u.2.1 u.2.2.1) (va_A (wL o cJ f b0 qh qs qr cI gh gs gr) sz) t) (va_A (wL o cJ f b0 qh qs qr cI gh gs gr) sz)) 2 12 (va_A (wL o cJ f b0 qh qs qr cI gh gs gr) sz) := by
  refine tl_met (fun A => (va_Qi (fun (k : Int32) (u : St × St × St × (Nat → Int64)) => (k = 0 ∧ ∃ r : Int32, u.2.2.2 (0 : Int32).toNatClampNeg = r.toInt64 ∧ ok r u.1 u.2.1 u.2.2.1) ∨ (ek k ∧ u = (gh, gs, gr, f))) (fun u t => wqB (dC, dI) vwCl (wL o cJ u.2.2.2 b0 qh qs qr cI u.1 u.2.1 u.2.2.1) A t) A)) (cc := cL_offerAt) (maxL := 5) (ret := (some .int)) (by decide) rfl (Nat.le_of_ble_eq_true rfl) ?_
  intro p e s m below meth c A hx hb hml hr hlk htab hts hown hP hK hN hD hA hXS hXH ls hl
  have hS : va_S A s.heap s.heap [] := va_S.rf
  have hl : lv_has ls 5 [(0, .ref b0), (1, .int a1), (2, .int a2), (3, .ref o)] := hl
  refine lv_aload_n hx hb dL_offerAt_0 rfl (lv_at hl 3 rfl) ?_
  refine lv_iconst (v := 0) hx hb dL_offerAt_1 (by decide) ?_
  refine lv_aload_n hx hb dL_offerAt_2 rfl (lv_at hl 0 rfl) ?_
  refine lv_iload_n hx hb dL_offerAt_3 rfl (lv_at hl 1 rfl) ?_
  refine lv_iload_n hx hb dL_offerAt_4 rfl (lv_at hl 2 rfl) ?_
  refine tx_V (As := [.int a1, .int a2]) (rest := [.int 0, .ref o]) (w1 := [(o, .inl (cJ, 1, .inr (.inl f)))]) (w2 := []) (wsd := fun u : St × St × St => wL o cJ f b0 qh qs qr cI u.1 u.2.1 u.2.2) ⟨hx, hb, hml, hown, hts⟩ (c_X4_offerAt l hfl dC dI cI b0 qh qs qr gh gs gr a1 a2 ok _ hp _) (cwV 2 hts gL_offerAt_X4_offerAt rfl rfl rfl (by decide +kernel) ⟨Nat.le_of_ble_eq_true rfl, Nat.le_of_ble_eq_true rfl⟩) hP hD hS hA (hK.sub [0] rfl) hN hXS hXH (wL_eq o cJ f b0 qh qs qr cI gh gs gr) (fun u => (wL_eq o cJ f b0 qh qs qr cI u.1 u.2.1 u.2.2).symm) rfl rfl rfl rfl hl.1 (Nat.le_of_ble_eq_true rfl) ⟨Nat.le_of_ble_eq_true rfl, Nat.le_of_ble_eq_true rfl⟩ dL_offerAt_5 ?_ ?_
  · intro E ce q9 H locs hpx hP hS hce hcv hcl
    rcases hpx with ⟨rfl, hek⟩
    · refine vx_catch (name := "java/lang/IndexOutOfBoundsException") hown [] (⟨0, 10, 13, 27⟩ : ExceptionTableEntry) [] (htab.trans rfl) (fun z hz => nomatch hz) rfl (by decide) (hts _ kL_offerAt_0) (va_Nw.use rfl hXS.2.2.2.1) hce hcv hcl ?_
      refine lv_astore (lv' := [(4, .ref q9), (0, .ref b0), (1, .int a1), (2, .int a2), (3, .ref o)]) hx hb dL_offerAt_13 hl (by decide) rfl (fun ls hl => ?_)
      refine lv_iconst (v := 1) hx hb dL_offerAt_15 (by decide) ?_
      refine W.widen (k := 2) (n := 12) (Nat.le_of_ble_eq_true rfl) (Nat.le_of_ble_eq_true rfl) ?_
      exact W.iret hx hb hr (fun t ht _ => ⟨⟨_, (gh, gs, gr, f), rfl, Or.inr ⟨hek, rfl⟩, by rw [ht]; exact hP, hD⟩, hS.F ht⟩) hS.2.2 dL_offerAt_16
  · intro r u H locs hok hP hD hS
    refine lv_i2l hx hb dL_offerAt_8 rfl ?_
    refine va_last hx hb hK hP hD hS 0 1 rfl rfl vp01 dL_offerAt_9 (fun H locs hP hD hS => ?_)
    refine lv_goto (tgt := 17) hx hb dL_offerAt_10 (by decide) ?_
    refine lv_iconst (v := 0) hx hb dL_offerAt_17 (by decide) ?_
    have hP : va_P (dC, dI) vwCl (wL o cJ (vp_updL f (0 : Int32).toNatClampNeg r.toInt64) b0 qh qs qr cI u.1 u.2.1 u.2.2) H := hP
    have hD : va_D A (wL o cJ (vp_updL f (0 : Int32).toNatClampNeg r.toInt64) b0 qh qs qr cI u.1 u.2.1 u.2.2) := hD
    refine W.widen (k := 2) (n := 12) (Nat.le_of_ble_eq_true rfl) (Nat.le_of_ble_eq_true rfl) ?_
    exact W.iret hx hb hr (fun t ht _ => ⟨⟨_, (u.1, u.2.1, u.2.2, vp_updL f (0 : Int32).toNatClampNeg r.toInt64), rfl, Or.inl ⟨rfl, r, show vp_updL f (0 : Int32).toNatClampNeg r.toInt64 (0 : Int32).toNatClampNeg = r.toInt64 from pk_uLs, hok⟩, by rw [ht]; exact hP, hD⟩, hS.F ht⟩) hS.2.2 dL_offerAt_18
theorem kL_serve_0 : (.classLink RL 27 "java/lang/IndexOutOfBoundsException" : Cond) ∈ wsL_serve := by decide +kernel
theorem kL_serve_1 : (.classLink RL 15 "java/lang/IllegalStateException" : Cond) ∈ wsL_serve := by decide +kernel
set_option maxRecDepth 100000 in
set_option maxHeartbeats 4000000 in
theorem c_L_serve (l : Launch) (hfl : l.stackTraces = false) (dC : Nat → ClassId) (dI : Nat → Nat → Nat) (cI cJ : ClassId) (o : Nat) (f : Nat → Int64) (b0 : Nat) (qh qs qr : Nat → Nat) (gh gs gr : St) (a1 : Int32) (a2 : Int32) (ok : Int32 → St → St → St → Prop) (ek : Int32 → Prop) (hp : P_X4_serve gh gs gr a1 a2 ok (fun E => (E = E_i ∧ ek 1) ∨ (E = E_s ∧ ek 2))) (sz : Nat) : Met l yL_serve wsL_serve { frames := 8, cells := 3, slots := 18, locals := 138 } (va_Pc [.ref b0, .int a1, .int a2, .ref o] (tpS (dC, dI) vwCl [(cI, .int), (cJ, .long)] (wL o cJ f b0 qh qs qr cI gh gs gr) sz)) (va_Qi (fun (k : Int32) (u : St × St × St × (Nat → Int64)) => (k = 0 ∧ ∃ r : Int32, u.2.2.2 (0 : Int32).toNatClampNeg = r.toInt64 ∧ ok r u.1 u.2.1 u.2.2.1) ∨ (ek k ∧ u = (gh, gs, gr, f))) (fun u t => wqB (dC, dI) vwCl (wL o cJ u.2.2.2 b0 qh qs qr cI u.1 u.2.1 u.2.2.1) (va_A (wL o cJ f b0 qh qs qr cI gh gs gr) sz) t) (va_A (wL o cJ f b0 qh qs qr cI gh gs gr) sz)) 3 18 (va_A (wL o cJ f b0 qh qs qr cI gh gs gr) sz) := by
  refine tl_met (fun A => (va_Qi (fun (k : Int32) (u : St × St × St × (Nat → Int64)) => (k = 0 ∧ ∃ r : Int32, u.2.2.2 (0 : Int32).toNatClampNeg = r.toInt64 ∧ ok r u.1 u.2.1 u.2.2.1) ∨ (ek k ∧ u = (gh, gs, gr, f))) (fun u t => wqB (dC, dI) vwCl (wL o cJ u.2.2.2 b0 qh qs qr cI u.1 u.2.1 u.2.2.1) A t) A)) (cc := cL_serve) (maxL := 5) (ret := (some .int)) (by decide) rfl (Nat.le_of_ble_eq_true rfl) ?_
  intro p e s m below meth c A hx hb hml hr hlk htab hts hown hP hK hN hD hA hXS hXH ls hl
  have hS : va_S A s.heap s.heap [] := va_S.rf
  have hl : lv_has ls 5 [(0, .ref b0), (1, .int a1), (2, .int a2), (3, .ref o)] := hl
  refine lv_aload_n hx hb dL_serve_0 rfl (lv_at hl 3 rfl) ?_
  refine lv_iconst (v := 0) hx hb dL_serve_1 (by decide) ?_
  refine lv_aload_n hx hb dL_serve_2 rfl (lv_at hl 0 rfl) ?_
  refine lv_iload_n hx hb dL_serve_3 rfl (lv_at hl 1 rfl) ?_
  refine lv_iload_n hx hb dL_serve_4 rfl (lv_at hl 2 rfl) ?_
  refine tx_V (As := [.int a1, .int a2]) (rest := [.int 0, .ref o]) (w1 := [(o, .inl (cJ, 1, .inr (.inl f)))]) (w2 := []) (wsd := fun u : St × St × St => wL o cJ f b0 qh qs qr cI u.1 u.2.1 u.2.2) ⟨hx, hb, hml, hown, hts⟩ (c_X4_serve l hfl dC dI cI b0 qh qs qr gh gs gr a1 a2 ok _ hp _) (cwV 2 hts gL_serve_X4_serve rfl rfl rfl (by decide +kernel) ⟨Nat.le_of_ble_eq_true rfl, Nat.le_of_ble_eq_true rfl⟩) hP hD hS hA (hK.sub [0] rfl) hN hXS hXH (wL_eq o cJ f b0 qh qs qr cI gh gs gr) (fun u => (wL_eq o cJ f b0 qh qs qr cI u.1 u.2.1 u.2.2).symm) rfl rfl rfl rfl hl.1 (Nat.le_of_ble_eq_true rfl) ⟨Nat.le_of_ble_eq_true rfl, Nat.le_of_ble_eq_true rfl⟩ dL_serve_5 ?_ ?_
  · intro E ce q9 H locs hpx hP hS hce hcv hcl
    rcases hpx with ⟨rfl, hek⟩ | ⟨rfl, hek⟩
    · refine vx_catch (name := "java/lang/IndexOutOfBoundsException") hown [] (⟨0, 10, 13, 27⟩ : ExceptionTableEntry) [(⟨0, 10, 17, 15⟩ : ExceptionTableEntry)] (htab.trans rfl) (fun z hz => nomatch hz) rfl (by decide) (hts _ kL_serve_0) (va_Nw.use rfl hXS.2.2.2.1) hce hcv hcl ?_
      refine lv_astore (lv' := [(4, .ref q9), (0, .ref b0), (1, .int a1), (2, .int a2), (3, .ref o)]) hx hb dL_serve_13 hl (by decide) rfl (fun ls hl => ?_)
      refine lv_iconst (v := 1) hx hb dL_serve_15 (by decide) ?_
      refine W.widen (k := 3) (n := 18) (Nat.le_of_ble_eq_true rfl) (Nat.le_of_ble_eq_true rfl) ?_
      exact W.iret hx hb hr (fun t ht _ => ⟨⟨_, (gh, gs, gr, f), rfl, Or.inr ⟨hek, rfl⟩, by rw [ht]; exact hP, hD⟩, hS.F ht⟩) hS.2.2 dL_serve_16
    · refine vx_catch (name := "java/lang/IllegalStateException") hown [(⟨0, 10, 13, 27⟩ : ExceptionTableEntry)] (⟨0, 10, 17, 15⟩ : ExceptionTableEntry) [] (htab.trans rfl) (fun z hz => by rw [List.mem_singleton] at hz; subst hz; exact Or.inr ⟨by decide, E_i, hts _ kL_serve_0, hXS.2.2.2.2.2.2.2.1⟩) rfl (by decide) (hts _ kL_serve_1) (va_Nw.use rfl hXS.2.2.2.2.2.1) hce hcv hcl ?_
      refine lv_astore (lv' := [(4, .ref q9), (0, .ref b0), (1, .int a1), (2, .int a2), (3, .ref o)]) hx hb dL_serve_17 hl (by decide) rfl (fun ls hl => ?_)
      refine lv_iconst (v := 2) hx hb dL_serve_19 (by decide) ?_
      refine W.widen (k := 3) (n := 18) (Nat.le_of_ble_eq_true rfl) (Nat.le_of_ble_eq_true rfl) ?_
      exact W.iret hx hb hr (fun t ht _ => ⟨⟨_, (gh, gs, gr, f), rfl, Or.inr ⟨hek, rfl⟩, by rw [ht]; exact hP, hD⟩, hS.F ht⟩) hS.2.2 dL_serve_20
  · intro r u H locs hok hP hD hS
    refine lv_i2l hx hb dL_serve_8 rfl ?_
    refine va_last hx hb hK hP hD hS 0 1 rfl rfl vp01 dL_serve_9 (fun H locs hP hD hS => ?_)
    refine lv_goto (tgt := 21) hx hb dL_serve_10 (by decide) ?_
    refine lv_iconst (v := 0) hx hb dL_serve_21 (by decide) ?_
    have hP : va_P (dC, dI) vwCl (wL o cJ (vp_updL f (0 : Int32).toNatClampNeg r.toInt64) b0 qh qs qr cI u.1 u.2.1 u.2.2) H := hP
    have hD : va_D A (wL o cJ (vp_updL f (0 : Int32).toNatClampNeg r.toInt64) b0 qh qs qr cI u.1 u.2.1 u.2.2) := hD
    refine W.widen (k := 3) (n := 18) (Nat.le_of_ble_eq_true rfl) (Nat.le_of_ble_eq_true rfl) ?_
    exact W.iret hx hb hr (fun t ht _ => ⟨⟨_, (u.1, u.2.1, u.2.2, vp_updL f (0 : Int32).toNatClampNeg r.toInt64), rfl, Or.inl ⟨rfl, r, show vp_updL f (0 : Int32).toNatClampNeg r.toInt64 (0 : Int32).toNatClampNeg = r.toInt64 from pk_uLs, hok⟩, by rw [ht]; exact hP, hD⟩, hS.F ht⟩) hS.2.2 dL_serve_22
theorem kL_giveBack_0 : (.classLink RL 27 "java/lang/IndexOutOfBoundsException" : Cond) ∈ wsL_giveBack := by decide +kernel
theorem kL_giveBack_1 : (.classLink RL 13 "java/lang/IllegalArgumentException" : Cond) ∈ wsL_giveBack := by decide +kernel
theorem kL_giveBack_2 : (.classLink RL 15 "java/lang/IllegalStateException" : Cond) ∈ wsL_giveBack := by decide +kernel
set_option maxRecDepth 100000 in
set_option maxHeartbeats 4000000 in
theorem c_L_giveBack (l : Launch) (hfl : l.stackTraces = false) (dC : Nat → ClassId) (dI : Nat → Nat → Nat) (cI cJ : ClassId) (o : Nat) (f : Nat → Int64) (b0 : Nat) (qh qs qr : Nat → Nat) (gh gs gr : St) (a1 : Int32) (a2 : Int32) (a3 : Int32) (ok : Int32 → St → St → St → Prop) (ek : Int32 → Prop) (hp : P_X4_giveBack gh gs gr a1 a2 a3 ok (fun E => (E = E_i ∧ ek 1) ∨ (E = E_a ∧ ek 2) ∨ (E = E_s ∧ ek 3))) (sz : Nat) : Met l yL_giveBack wsL_giveBack { frames := 8, cells := 4, slots := 24, locals := 141 } (va_Pc [.ref b0, .int a1, .int a2, .int a3, .ref o] (tpS (dC, dI) vwCl [(cI, .int), (cJ, .long)] (wL o cJ f b0 qh qs qr cI gh gs gr) sz)) (va_Qi (fun (k : Int32) (u : St × St × St × (Nat → Int64)) => (k = 0 ∧ ∃ r : Int32, u.2.2.2 (0 : Int32).toNatClampNeg = r.toInt64 ∧ ok r u.1 u.2.1 u.2.2.1) ∨ (ek k ∧ u = (gh, gs, gr, f))) (fun u t => wqB (dC, dI) vwCl (wL o cJ u.2.2.2 b0 qh qs qr cI u.1 u.2.1 u.2.2.1) (va_A (wL o cJ f b0 qh qs qr cI gh gs gr) sz) t) (va_A (wL o cJ f b0 qh qs qr cI gh gs gr) sz)) 4 24 (va_A (wL o cJ f b0 qh qs qr cI gh gs gr) sz) := by
  refine tl_met (fun A => (va_Qi (fun (k : Int32) (u : St × St × St × (Nat → Int64)) => (k = 0 ∧ ∃ r : Int32, u.2.2.2 (0 : Int32).toNatClampNeg = r.toInt64 ∧ ok r u.1 u.2.1 u.2.2.1) ∨ (ek k ∧ u = (gh, gs, gr, f))) (fun u t => wqB (dC, dI) vwCl (wL o cJ u.2.2.2 b0 qh qs qr cI u.1 u.2.1 u.2.2.1) A t) A)) (cc := cL_giveBack) (maxL := 6) (ret := (some .int)) (by decide) rfl (Nat.le_of_ble_eq_true rfl) ?_
  intro p e s m below meth c A hx hb hml hr hlk htab hts hown hP hK hN hD hA hXS hXH ls hl
  have hS : va_S A s.heap s.heap [] := va_S.rf
  have hl : lv_has ls 6 [(0, .ref b0), (1, .int a1), (2, .int a2), (3, .int a3), (4, .ref o)] := hl
  refine lv_aload hx hb dL_giveBack_0 (lv_at hl 4 rfl) ?_
  refine lv_iconst (v := 0) hx hb dL_giveBack_2 (by decide) ?_
  refine lv_aload_n hx hb dL_giveBack_3 rfl (lv_at hl 0 rfl) ?_
  refine lv_iload_n hx hb dL_giveBack_4 rfl (lv_at hl 1 rfl) ?_
  refine lv_iload_n hx hb dL_giveBack_5 rfl (lv_at hl 2 rfl) ?_
  refine lv_iload_n hx hb dL_giveBack_6 rfl (lv_at hl 3 rfl) ?_
  refine tx_V (As := [.int a1, .int a2, .int a3]) (rest := [.int 0, .ref o]) (w1 := [(o, .inl (cJ, 1, .inr (.inl f)))]) (w2 := []) (wsd := fun u : St × St × St => wL o cJ f b0 qh qs qr cI u.1 u.2.1 u.2.2) ⟨hx, hb, hml, hown, hts⟩ (c_X4_giveBack l hfl dC dI cI b0 qh qs qr gh gs gr a1 a2 a3 ok _ hp _) (cwV 3 hts gL_giveBack_X4_giveBack rfl rfl rfl (by decide +kernel) ⟨Nat.le_of_ble_eq_true rfl, Nat.le_of_ble_eq_true rfl⟩) hP hD hS hA (hK.sub [0] rfl) hN hXS hXH (wL_eq o cJ f b0 qh qs qr cI gh gs gr) (fun u => (wL_eq o cJ f b0 qh qs qr cI u.1 u.2.1 u.2.2).symm) rfl rfl rfl rfl hl.1 (Nat.le_of_ble_eq_true rfl) ⟨Nat.le_of_ble_eq_true rfl, Nat.le_of_ble_eq_true rfl⟩ dL_giveBack_7 ?_ ?_
  · intro E ce q9 H locs hpx hP hS hce hcv hcl
    rcases hpx with ⟨rfl, hek⟩ | ⟨rfl, hek⟩ | ⟨rfl, hek⟩
    · refine vx_catch (name := "java/lang/IndexOutOfBoundsException") hown [] (⟨0, 12, 15, 27⟩ : ExceptionTableEntry) [(⟨0, 12, 19, 13⟩ : ExceptionTableEntry), (⟨0, 12, 23, 15⟩ : ExceptionTableEntry)] (htab.trans rfl) (fun z hz => nomatch hz) rfl (by decide) (hts _ kL_giveBack_0) (va_Nw.use rfl hXS.2.2.2.1) hce hcv hcl ?_
      refine lv_astore (lv' := [(5, .ref q9), (0, .ref b0), (1, .int a1), (2, .int a2), (3, .int a3), (4, .ref o)]) hx hb dL_giveBack_15 hl (by decide) rfl (fun ls hl => ?_)
      refine lv_iconst (v := 1) hx hb dL_giveBack_17 (by decide) ?_
      refine W.widen (k := 4) (n := 24) (Nat.le_of_ble_eq_true rfl) (Nat.le_of_ble_eq_true rfl) ?_
      exact W.iret hx hb hr (fun t ht _ => ⟨⟨_, (gh, gs, gr, f), rfl, Or.inr ⟨hek, rfl⟩, by rw [ht]; exact hP, hD⟩, hS.F ht⟩) hS.2.2 dL_giveBack_18
    · refine vx_catch (name := "java/lang/IllegalArgumentException") hown [(⟨0, 12, 15, 27⟩ : ExceptionTableEntry)] (⟨0, 12, 19, 13⟩ : ExceptionTableEntry) [(⟨0, 12, 23, 15⟩ : ExceptionTableEntry)] (htab.trans rfl) (fun z hz => by rw [List.mem_singleton] at hz; subst hz; exact Or.inr ⟨by decide, E_i, hts _ kL_giveBack_0, hXS.2.2.2.2.2.2.2.2.1⟩) rfl (by decide) (hts _ kL_giveBack_1) (va_Nw.use rfl hXS.2.2.2.2.1) hce hcv hcl ?_
      refine lv_astore (lv' := [(5, .ref q9), (0, .ref b0), (1, .int a1), (2, .int a2), (3, .int a3), (4, .ref o)]) hx hb dL_giveBack_19 hl (by decide) rfl (fun ls hl => ?_)
      refine lv_iconst (v := 2) hx hb dL_giveBack_21 (by decide) ?_
      refine W.widen (k := 4) (n := 24) (Nat.le_of_ble_eq_true rfl) (Nat.le_of_ble_eq_true rfl) ?_
      exact W.iret hx hb hr (fun t ht _ => ⟨⟨_, (gh, gs, gr, f), rfl, Or.inr ⟨hek, rfl⟩, by rw [ht]; exact hP, hD⟩, hS.F ht⟩) hS.2.2 dL_giveBack_22
    · have hps : ∀ z ∈ ([(⟨0, 12, 15, 27⟩ : ExceptionTableEntry), (⟨0, 12, 19, 13⟩ : ExceptionTableEntry)] : List ExceptionTableEntry), covers z 7 = false ∨ (z.catchType ≠ 0 ∧ ∃ nm : String, (Cond.classLink RL z.catchType nm).before ([.ref b0, .int a1, .int a2, .int a3, .ref o] : List Value).toArray s = true ∧ va_Nc E_s nm s) := by
        intro z hz
        simp only [List.mem_cons, List.not_mem_nil, or_false] at hz
        rcases hz with rfl | rfl
        · exact Or.inr ⟨by decide, E_i, hts _ kL_giveBack_0, hXS.2.2.2.2.2.2.2.1⟩
        · exact Or.inr ⟨by decide, E_a, hts _ kL_giveBack_1, hXS.2.2.2.2.2.2.1⟩
      refine vx_catch (name := "java/lang/IllegalStateException") hown [(⟨0, 12, 15, 27⟩ : ExceptionTableEntry), (⟨0, 12, 19, 13⟩ : ExceptionTableEntry)] (⟨0, 12, 23, 15⟩ : ExceptionTableEntry) [] (htab.trans rfl) hps rfl (by decide) (hts _ kL_giveBack_2) (va_Nw.use rfl hXS.2.2.2.2.2.1) hce hcv hcl ?_
      refine lv_astore (lv' := [(5, .ref q9), (0, .ref b0), (1, .int a1), (2, .int a2), (3, .int a3), (4, .ref o)]) hx hb dL_giveBack_23 hl (by decide) rfl (fun ls hl => ?_)
      refine lv_iconst (v := 3) hx hb dL_giveBack_25 (by decide) ?_
      refine W.widen (k := 4) (n := 24) (Nat.le_of_ble_eq_true rfl) (Nat.le_of_ble_eq_true rfl) ?_
      exact W.iret hx hb hr (fun t ht _ => ⟨⟨_, (gh, gs, gr, f), rfl, Or.inr ⟨hek, rfl⟩, by rw [ht]; exact hP, hD⟩, hS.F ht⟩) hS.2.2 dL_giveBack_26
  · intro r u H locs hok hP hD hS
    refine lv_i2l hx hb dL_giveBack_10 rfl ?_
    refine va_last hx hb hK hP hD hS 0 1 rfl rfl vp01 dL_giveBack_11 (fun H locs hP hD hS => ?_)
    refine lv_goto (tgt := 27) hx hb dL_giveBack_12 (by decide) ?_
    refine lv_iconst (v := 0) hx hb dL_giveBack_27 (by decide) ?_
    have hP : va_P (dC, dI) vwCl (wL o cJ (vp_updL f (0 : Int32).toNatClampNeg r.toInt64) b0 qh qs qr cI u.1 u.2.1 u.2.2) H := hP
    have hD : va_D A (wL o cJ (vp_updL f (0 : Int32).toNatClampNeg r.toInt64) b0 qh qs qr cI u.1 u.2.1 u.2.2) := hD
    refine W.widen (k := 4) (n := 24) (Nat.le_of_ble_eq_true rfl) (Nat.le_of_ble_eq_true rfl) ?_
    exact W.iret hx hb hr (fun t ht _ => ⟨⟨_, (u.1, u.2.1, u.2.2, vp_updL f (0 : Int32).toNatClampNeg r.toInt64), rfl, Or.inl ⟨rfl, r, show vp_updL f (0 : Int32).toNatClampNeg r.toInt64 (0 : Int32).toNatClampNeg = r.toInt64 from pk_uLs, hok⟩, by rw [ht]; exact hP, hD⟩, hS.F ht⟩) hS.2.2 dL_giveBack_28
theorem kL_found_0 : (.classLink RL 27 "java/lang/IndexOutOfBoundsException" : Cond) ∈ wsL_found := by decide +kernel
theorem kL_found_1 : (.classLink RL 13 "java/lang/IllegalArgumentException" : Cond) ∈ wsL_found := by decide +kernel
theorem kL_found_2 : (.classLink RL 15 "java/lang/IllegalStateException" : Cond) ∈ wsL_found := by decide +kernel
set_option maxRecDepth 100000 in
set_option maxHeartbeats 4000000 in
theorem c_L_found (l : Launch) (hfl : l.stackTraces = false) (dC : Nat → ClassId) (dI : Nat → Nat → Nat) (cI cJ : ClassId) (o : Nat) (f : Nat → Int64) (b0 : Nat) (qh qs qr : Nat → Nat) (gh gs gr : St) (a1 : Int32) (a2 : Int32) (a3 : Int32) (ok : Int32 → St → St → St → Prop) (ek : Int32 → Prop) (hp : P_X4_found gh gs gr a1 a2 a3 ok (fun E => (E = E_i ∧ ek 1) ∨ (E = E_a ∧ ek 2) ∨ (E = E_s ∧ ek 3))) (sz : Nat) : Met l yL_found wsL_found { frames := 8, cells := 4, slots := 24, locals := 127 } (va_Pc [.ref b0, .int a1, .int a2, .int a3, .ref o] (tpS (dC, dI) vwCl [(cI, .int), (cJ, .long)] (wL o cJ f b0 qh qs qr cI gh gs gr) sz)) (va_Qi (fun (k : Int32) (u : St × St × St × (Nat → Int64)) => (k = 0 ∧ ∃ r : Int32, u.2.2.2 (0 : Int32).toNatClampNeg = r.toInt64 ∧ ok r u.1 u.2.1 u.2.2.1) ∨ (ek k ∧ u = (gh, gs, gr, f))) (fun u t => wqB (dC, dI) vwCl (wL o cJ u.2.2.2 b0 qh qs qr cI u.1 u.2.1 u.2.2.1) (va_A (wL o cJ f b0 qh qs qr cI gh gs gr) sz) t) (va_A (wL o cJ f b0 qh qs qr cI gh gs gr) sz)) 4 24 (va_A (wL o cJ f b0 qh qs qr cI gh gs gr) sz) := by
  refine tl_met (fun A => (va_Qi (fun (k : Int32) (u : St × St × St × (Nat → Int64)) => (k = 0 ∧ ∃ r : Int32, u.2.2.2 (0 : Int32).toNatClampNeg = r.toInt64 ∧ ok r u.1 u.2.1 u.2.2.1) ∨ (ek k ∧ u = (gh, gs, gr, f))) (fun u t => wqB (dC, dI) vwCl (wL o cJ u.2.2.2 b0 qh qs qr cI u.1 u.2.1 u.2.2.1) A t) A)) (cc := cL_found) (maxL := 6) (ret := (some .int)) (by decide) rfl (Nat.le_of_ble_eq_true rfl) ?_
  intro p e s m below meth c A hx hb hml hr hlk htab hts hown hP hK hN hD hA hXS hXH ls hl
  have hS : va_S A s.heap s.heap [] := va_S.rf
  have hl : lv_has ls 6 [(0, .ref b0), (1, .int a1), (2, .int a2), (3, .int a3), (4, .ref o)] := hl
  refine lv_aload hx hb dL_found_0 (lv_at hl 4 rfl) ?_
  refine lv_iconst (v := 0) hx hb dL_found_2 (by decide) ?_
  refine lv_aload_n hx hb dL_found_3 rfl (lv_at hl 0 rfl) ?_
  refine lv_iload_n hx hb dL_found_4 rfl (lv_at hl 1 rfl) ?_
  refine lv_iload_n hx hb dL_found_5 rfl (lv_at hl 2 rfl) ?_
  refine lv_iload_n hx hb dL_found_6 rfl (lv_at hl 3 rfl) ?_
  refine tx_V (As := [.int a1, .int a2, .int a3]) (rest := [.int 0, .ref o]) (w1 := [(o, .inl (cJ, 1, .inr (.inl f)))]) (w2 := []) (wsd := fun u : St × St × St => wL o cJ f b0 qh qs qr cI u.1 u.2.1 u.2.2) ⟨hx, hb, hml, hown, hts⟩ (c_X4_found l hfl dC dI cI b0 qh qs qr gh gs gr a1 a2 a3 ok _ hp _) (cwV 3 hts gL_found_X4_found rfl rfl rfl (by decide +kernel) ⟨Nat.le_of_ble_eq_true rfl, Nat.le_of_ble_eq_true rfl⟩) hP hD hS hA (hK.sub [0] rfl) hN hXS hXH (wL_eq o cJ f b0 qh qs qr cI gh gs gr) (fun u => (wL_eq o cJ f b0 qh qs qr cI u.1 u.2.1 u.2.2).symm) rfl rfl rfl rfl hl.1 (Nat.le_of_ble_eq_true rfl) ⟨Nat.le_of_ble_eq_true rfl, Nat.le_of_ble_eq_true rfl⟩ dL_found_7 ?_ ?_
  · intro E ce q9 H locs hpx hP hS hce hcv hcl
    rcases hpx with ⟨rfl, hek⟩ | ⟨rfl, hek⟩ | ⟨rfl, hek⟩
    · refine vx_catch (name := "java/lang/IndexOutOfBoundsException") hown [] (⟨0, 12, 15, 27⟩ : ExceptionTableEntry) [(⟨0, 12, 19, 13⟩ : ExceptionTableEntry), (⟨0, 12, 23, 15⟩ : ExceptionTableEntry)] (htab.trans rfl) (fun z hz => nomatch hz) rfl (by decide) (hts _ kL_found_0) (va_Nw.use rfl hXS.2.2.2.1) hce hcv hcl ?_
      refine lv_astore (lv' := [(5, .ref q9), (0, .ref b0), (1, .int a1), (2, .int a2), (3, .int a3), (4, .ref o)]) hx hb dL_found_15 hl (by decide) rfl (fun ls hl => ?_)
      refine lv_iconst (v := 1) hx hb dL_found_17 (by decide) ?_
      refine W.widen (k := 4) (n := 24) (Nat.le_of_ble_eq_true rfl) (Nat.le_of_ble_eq_true rfl) ?_
      exact W.iret hx hb hr (fun t ht _ => ⟨⟨_, (gh, gs, gr, f), rfl, Or.inr ⟨hek, rfl⟩, by rw [ht]; exact hP, hD⟩, hS.F ht⟩) hS.2.2 dL_found_18
    · refine vx_catch (name := "java/lang/IllegalArgumentException") hown [(⟨0, 12, 15, 27⟩ : ExceptionTableEntry)] (⟨0, 12, 19, 13⟩ : ExceptionTableEntry) [(⟨0, 12, 23, 15⟩ : ExceptionTableEntry)] (htab.trans rfl) (fun z hz => by rw [List.mem_singleton] at hz; subst hz; exact Or.inr ⟨by decide, E_i, hts _ kL_found_0, hXS.2.2.2.2.2.2.2.2.1⟩) rfl (by decide) (hts _ kL_found_1) (va_Nw.use rfl hXS.2.2.2.2.1) hce hcv hcl ?_
      refine lv_astore (lv' := [(5, .ref q9), (0, .ref b0), (1, .int a1), (2, .int a2), (3, .int a3), (4, .ref o)]) hx hb dL_found_19 hl (by decide) rfl (fun ls hl => ?_)
      refine lv_iconst (v := 2) hx hb dL_found_21 (by decide) ?_
      refine W.widen (k := 4) (n := 24) (Nat.le_of_ble_eq_true rfl) (Nat.le_of_ble_eq_true rfl) ?_
      exact W.iret hx hb hr (fun t ht _ => ⟨⟨_, (gh, gs, gr, f), rfl, Or.inr ⟨hek, rfl⟩, by rw [ht]; exact hP, hD⟩, hS.F ht⟩) hS.2.2 dL_found_22
    · have hps : ∀ z ∈ ([(⟨0, 12, 15, 27⟩ : ExceptionTableEntry), (⟨0, 12, 19, 13⟩ : ExceptionTableEntry)] : List ExceptionTableEntry), covers z 7 = false ∨ (z.catchType ≠ 0 ∧ ∃ nm : String, (Cond.classLink RL z.catchType nm).before ([.ref b0, .int a1, .int a2, .int a3, .ref o] : List Value).toArray s = true ∧ va_Nc E_s nm s) := by
        intro z hz
        simp only [List.mem_cons, List.not_mem_nil, or_false] at hz
        rcases hz with rfl | rfl
        · exact Or.inr ⟨by decide, E_i, hts _ kL_found_0, hXS.2.2.2.2.2.2.2.1⟩
        · exact Or.inr ⟨by decide, E_a, hts _ kL_found_1, hXS.2.2.2.2.2.2.1⟩
      refine vx_catch (name := "java/lang/IllegalStateException") hown [(⟨0, 12, 15, 27⟩ : ExceptionTableEntry), (⟨0, 12, 19, 13⟩ : ExceptionTableEntry)] (⟨0, 12, 23, 15⟩ : ExceptionTableEntry) [] (htab.trans rfl) hps rfl (by decide) (hts _ kL_found_2) (va_Nw.use rfl hXS.2.2.2.2.2.1) hce hcv hcl ?_
      refine lv_astore (lv' := [(5, .ref q9), (0, .ref b0), (1, .int a1), (2, .int a2), (3, .int a3), (4, .ref o)]) hx hb dL_found_23 hl (by decide) rfl (fun ls hl => ?_)
      refine lv_iconst (v := 3) hx hb dL_found_25 (by decide) ?_
      refine W.widen (k := 4) (n := 24) (Nat.le_of_ble_eq_true rfl) (Nat.le_of_ble_eq_true rfl) ?_
      exact W.iret hx hb hr (fun t ht _ => ⟨⟨_, (gh, gs, gr, f), rfl, Or.inr ⟨hek, rfl⟩, by rw [ht]; exact hP, hD⟩, hS.F ht⟩) hS.2.2 dL_found_26
  · intro r u H locs hok hP hD hS
    refine lv_i2l hx hb dL_found_10 rfl ?_
    refine va_last hx hb hK hP hD hS 0 1 rfl rfl vp01 dL_found_11 (fun H locs hP hD hS => ?_)
    refine lv_goto (tgt := 27) hx hb dL_found_12 (by decide) ?_
    refine lv_iconst (v := 0) hx hb dL_found_27 (by decide) ?_
    have hP : va_P (dC, dI) vwCl (wL o cJ (vp_updL f (0 : Int32).toNatClampNeg r.toInt64) b0 qh qs qr cI u.1 u.2.1 u.2.2) H := hP
    have hD : va_D A (wL o cJ (vp_updL f (0 : Int32).toNatClampNeg r.toInt64) b0 qh qs qr cI u.1 u.2.1 u.2.2) := hD
    refine W.widen (k := 4) (n := 24) (Nat.le_of_ble_eq_true rfl) (Nat.le_of_ble_eq_true rfl) ?_
    exact W.iret hx hb hr (fun t ht _ => ⟨⟨_, (u.1, u.2.1, u.2.2, vp_updL f (0 : Int32).toNatClampNeg r.toInt64), rfl, Or.inl ⟨rfl, r, show vp_updL f (0 : Int32).toNatClampNeg r.toInt64 (0 : Int32).toNatClampNeg = r.toInt64 from pk_uLs, hok⟩, by rw [ht]; exact hP, hD⟩, hS.F ht⟩) hS.2.2 dL_found_28
theorem kL_pieces_0 : (.classLink RL 27 "java/lang/IndexOutOfBoundsException" : Cond) ∈ wsL_pieces := by decide +kernel
set_option maxRecDepth 100000 in
set_option maxHeartbeats 4000000 in
theorem c_L_pieces (l : Launch) (hfl : l.stackTraces = false) (dC : Nat → ClassId) (dI : Nat → Nat → Nat) (cI cJ : ClassId) (o : Nat) (f : Nat → Int64) (b0 : Nat) (qh qs qr : Nat → Nat) (gh gs gr : St) (a1 : Int32) (a2 : Int32) (ok : Int32 → St → St → St → Prop) (ek : Int32 → Prop) (hp : P_X4_pieces gh gs gr a1 a2 ok (fun E => (E = E_i ∧ ek 1))) (sz : Nat) : Met l yL_pieces wsL_pieces { frames := 8, cells := 2, slots := 12, locals := 125 } (va_Pc [.ref b0, .int a1, .int a2, .ref o] (tpS (dC, dI) vwCl [(cI, .int), (cJ, .long)] (wL o cJ f b0 qh qs qr cI gh gs gr) sz)) (va_Qi (fun (k : Int32) (u : St × St × St × (Nat → Int64)) => (k = 0 ∧ ∃ r : Int32, u.2.2.2 (0 : Int32).toNatClampNeg = r.toInt64 ∧ ok r u.1 u.2.1 u.2.2.1) ∨ (ek k ∧ u = (gh, gs, gr, f))) (fun u t => wqB (dC, dI) vwCl (wL o cJ u.2.2.2 b0 qh qs qr cI u.1 u.2.1 u.2.2.1) (va_A (wL o cJ f b0 qh qs qr cI gh gs gr) sz) t) (va_A (wL o cJ f b0 qh qs qr cI gh gs gr) sz)) 2 12 (va_A (wL o cJ f b0 qh qs qr cI gh gs gr) sz) := by
  refine tl_met (fun A => (va_Qi (fun (k : Int32) (u : St × St × St × (Nat → Int64)) => (k = 0 ∧ ∃ r : Int32, u.2.2.2 (0 : Int32).toNatClampNeg = r.toInt64 ∧ ok r u.1 u.2.1 u.2.2.1) ∨ (ek k ∧ u = (gh, gs, gr, f))) (fun u t => wqB (dC, dI) vwCl (wL o cJ u.2.2.2 b0 qh qs qr cI u.1 u.2.1 u.2.2.1) A t) A)) (cc := cL_pieces) (maxL := 5) (ret := (some .int)) (by decide) rfl (Nat.le_of_ble_eq_true rfl) ?_
  intro p e s m below meth c A hx hb hml hr hlk htab hts hown hP hK hN hD hA hXS hXH ls hl
  have hS : va_S A s.heap s.heap [] := va_S.rf
  have hl : lv_has ls 5 [(0, .ref b0), (1, .int a1), (2, .int a2), (3, .ref o)] := hl
  refine lv_aload_n hx hb dL_pieces_0 rfl (lv_at hl 3 rfl) ?_
  refine lv_iconst (v := 0) hx hb dL_pieces_1 (by decide) ?_
  refine lv_aload_n hx hb dL_pieces_2 rfl (lv_at hl 0 rfl) ?_
  refine lv_iload_n hx hb dL_pieces_3 rfl (lv_at hl 1 rfl) ?_
  refine lv_iload_n hx hb dL_pieces_4 rfl (lv_at hl 2 rfl) ?_
  refine tx_V (As := [.int a1, .int a2]) (rest := [.int 0, .ref o]) (w1 := [(o, .inl (cJ, 1, .inr (.inl f)))]) (w2 := []) (wsd := fun u : St × St × St => wL o cJ f b0 qh qs qr cI u.1 u.2.1 u.2.2) ⟨hx, hb, hml, hown, hts⟩ (c_X4_pieces l hfl dC dI cI b0 qh qs qr gh gs gr a1 a2 ok _ hp _) (cwV 2 hts gL_pieces_X4_pieces rfl rfl rfl (by decide +kernel) ⟨Nat.le_of_ble_eq_true rfl, Nat.le_of_ble_eq_true rfl⟩) hP hD hS hA (hK.sub [0] rfl) hN hXS hXH (wL_eq o cJ f b0 qh qs qr cI gh gs gr) (fun u => (wL_eq o cJ f b0 qh qs qr cI u.1 u.2.1 u.2.2).symm) rfl rfl rfl rfl hl.1 (Nat.le_of_ble_eq_true rfl) ⟨Nat.le_of_ble_eq_true rfl, Nat.le_of_ble_eq_true rfl⟩ dL_pieces_5 ?_ ?_
  · intro E ce q9 H locs hpx hP hS hce hcv hcl
    rcases hpx with ⟨rfl, hek⟩
    · refine vx_catch (name := "java/lang/IndexOutOfBoundsException") hown [] (⟨0, 10, 13, 27⟩ : ExceptionTableEntry) [] (htab.trans rfl) (fun z hz => nomatch hz) rfl (by decide) (hts _ kL_pieces_0) (va_Nw.use rfl hXS.2.2.2.1) hce hcv hcl ?_
      refine lv_astore (lv' := [(4, .ref q9), (0, .ref b0), (1, .int a1), (2, .int a2), (3, .ref o)]) hx hb dL_pieces_13 hl (by decide) rfl (fun ls hl => ?_)
      refine lv_iconst (v := 1) hx hb dL_pieces_15 (by decide) ?_
      refine W.widen (k := 2) (n := 12) (Nat.le_of_ble_eq_true rfl) (Nat.le_of_ble_eq_true rfl) ?_
      exact W.iret hx hb hr (fun t ht _ => ⟨⟨_, (gh, gs, gr, f), rfl, Or.inr ⟨hek, rfl⟩, by rw [ht]; exact hP, hD⟩, hS.F ht⟩) hS.2.2 dL_pieces_16
  · intro r u H locs hok hP hD hS
    refine lv_i2l hx hb dL_pieces_8 rfl ?_
    refine va_last hx hb hK hP hD hS 0 1 rfl rfl vp01 dL_pieces_9 (fun H locs hP hD hS => ?_)
    refine lv_goto (tgt := 17) hx hb dL_pieces_10 (by decide) ?_
    refine lv_iconst (v := 0) hx hb dL_pieces_17 (by decide) ?_
    have hP : va_P (dC, dI) vwCl (wL o cJ (vp_updL f (0 : Int32).toNatClampNeg r.toInt64) b0 qh qs qr cI u.1 u.2.1 u.2.2) H := hP
    have hD : va_D A (wL o cJ (vp_updL f (0 : Int32).toNatClampNeg r.toInt64) b0 qh qs qr cI u.1 u.2.1 u.2.2) := hD
    refine W.widen (k := 2) (n := 12) (Nat.le_of_ble_eq_true rfl) (Nat.le_of_ble_eq_true rfl) ?_
    exact W.iret hx hb hr (fun t ht _ => ⟨⟨_, (u.1, u.2.1, u.2.2, vp_updL f (0 : Int32).toNatClampNeg r.toInt64), rfl, Or.inl ⟨rfl, r, show vp_updL f (0 : Int32).toNatClampNeg r.toInt64 (0 : Int32).toNatClampNeg = r.toInt64 from pk_uLs, hok⟩, by rw [ht]; exact hP, hD⟩, hS.F ht⟩) hS.2.2 dL_pieces_18
theorem kL_stateOf_0 : (.classLink RL 27 "java/lang/IndexOutOfBoundsException" : Cond) ∈ wsL_stateOf := by decide +kernel
set_option maxRecDepth 100000 in
set_option maxHeartbeats 4000000 in
theorem c_L_stateOf (l : Launch) (hfl : l.stackTraces = false) (dC : Nat → ClassId) (dI : Nat → Nat → Nat) (cI cJ : ClassId) (o : Nat) (f : Nat → Int64) (b0 : Nat) (qh qs qr : Nat → Nat) (gh gs gr : St) (a1 : Int32) (ok : Int32 → St → St → St → Prop) (ek : Int32 → Prop) (hp : P_X4_stateOf gh gs gr a1 ok (fun E => (E = E_i ∧ ek 1))) (sz : Nat) : Met l yL_stateOf wsL_stateOf { frames := 8, cells := 1, slots := 6, locals := 124 } (va_Pc [.ref b0, .int a1, .ref o] (tpS (dC, dI) vwCl [(cI, .int), (cJ, .long)] (wL o cJ f b0 qh qs qr cI gh gs gr) sz)) (va_Qi (fun (k : Int32) (u : St × St × St × (Nat → Int64)) => (k = 0 ∧ ∃ r : Int32, u.2.2.2 (0 : Int32).toNatClampNeg = r.toInt64 ∧ ok r u.1 u.2.1 u.2.2.1) ∨ (ek k ∧ u = (gh, gs, gr, f))) (fun u t => wqB (dC, dI) vwCl (wL o cJ u.2.2.2 b0 qh qs qr cI u.1 u.2.1 u.2.2.1) (va_A (wL o cJ f b0 qh qs qr cI gh gs gr) sz) t) (va_A (wL o cJ f b0 qh qs qr cI gh gs gr) sz)) 1 6 (va_A (wL o cJ f b0 qh qs qr cI gh gs gr) sz) := by
  refine tl_met (fun A => (va_Qi (fun (k : Int32) (u : St × St × St × (Nat → Int64)) => (k = 0 ∧ ∃ r : Int32, u.2.2.2 (0 : Int32).toNatClampNeg = r.toInt64 ∧ ok r u.1 u.2.1 u.2.2.1) ∨ (ek k ∧ u = (gh, gs, gr, f))) (fun u t => wqB (dC, dI) vwCl (wL o cJ u.2.2.2 b0 qh qs qr cI u.1 u.2.1 u.2.2.1) A t) A)) (cc := cL_stateOf) (maxL := 4) (ret := (some .int)) (by decide) rfl (Nat.le_of_ble_eq_true rfl) ?_
  intro p e s m below meth c A hx hb hml hr hlk htab hts hown hP hK hN hD hA hXS hXH ls hl
  have hS : va_S A s.heap s.heap [] := va_S.rf
  have hl : lv_has ls 4 [(0, .ref b0), (1, .int a1), (2, .ref o)] := hl
  refine lv_aload_n hx hb dL_stateOf_0 rfl (lv_at hl 2 rfl) ?_
  refine lv_iconst (v := 0) hx hb dL_stateOf_1 (by decide) ?_
  refine lv_aload_n hx hb dL_stateOf_2 rfl (lv_at hl 0 rfl) ?_
  refine lv_iload_n hx hb dL_stateOf_3 rfl (lv_at hl 1 rfl) ?_
  refine tx_V (As := [.int a1]) (rest := [.int 0, .ref o]) (w1 := [(o, .inl (cJ, 1, .inr (.inl f)))]) (w2 := []) (wsd := fun u : St × St × St => wL o cJ f b0 qh qs qr cI u.1 u.2.1 u.2.2) ⟨hx, hb, hml, hown, hts⟩ (c_X4_stateOf l hfl dC dI cI b0 qh qs qr gh gs gr a1 ok _ hp _) (cwV 1 hts gL_stateOf_X4_stateOf rfl rfl rfl (by decide +kernel) ⟨Nat.le_of_ble_eq_true rfl, Nat.le_of_ble_eq_true rfl⟩) hP hD hS hA (hK.sub [0] rfl) hN hXS hXH (wL_eq o cJ f b0 qh qs qr cI gh gs gr) (fun u => (wL_eq o cJ f b0 qh qs qr cI u.1 u.2.1 u.2.2).symm) rfl rfl rfl rfl hl.1 (Nat.le_of_ble_eq_true rfl) ⟨Nat.le_of_ble_eq_true rfl, Nat.le_of_ble_eq_true rfl⟩ dL_stateOf_4 ?_ ?_
  · intro E ce q9 H locs hpx hP hS hce hcv hcl
    rcases hpx with ⟨rfl, hek⟩
    · refine vx_catch (name := "java/lang/IndexOutOfBoundsException") hown [] (⟨0, 9, 12, 27⟩ : ExceptionTableEntry) [] (htab.trans rfl) (fun z hz => nomatch hz) rfl (by decide) (hts _ kL_stateOf_0) (va_Nw.use rfl hXS.2.2.2.1) hce hcv hcl ?_
      refine lv_astore_n (lv' := [(3, .ref q9), (0, .ref b0), (1, .int a1), (2, .ref o)]) hx hb dL_stateOf_12 rfl hl (by decide) rfl (fun ls hl => ?_)
      refine lv_iconst (v := 1) hx hb dL_stateOf_13 (by decide) ?_
      refine W.widen (k := 1) (n := 6) (Nat.le_of_ble_eq_true rfl) (Nat.le_of_ble_eq_true rfl) ?_
      exact W.iret hx hb hr (fun t ht _ => ⟨⟨_, (gh, gs, gr, f), rfl, Or.inr ⟨hek, rfl⟩, by rw [ht]; exact hP, hD⟩, hS.F ht⟩) hS.2.2 dL_stateOf_14
  · intro r u H locs hok hP hD hS
    refine lv_i2l hx hb dL_stateOf_7 rfl ?_
    refine va_last hx hb hK hP hD hS 0 1 rfl rfl vp01 dL_stateOf_8 (fun H locs hP hD hS => ?_)
    refine lv_goto (tgt := 15) hx hb dL_stateOf_9 (by decide) ?_
    refine lv_iconst (v := 0) hx hb dL_stateOf_15 (by decide) ?_
    have hP : va_P (dC, dI) vwCl (wL o cJ (vp_updL f (0 : Int32).toNatClampNeg r.toInt64) b0 qh qs qr cI u.1 u.2.1 u.2.2) H := hP
    have hD : va_D A (wL o cJ (vp_updL f (0 : Int32).toNatClampNeg r.toInt64) b0 qh qs qr cI u.1 u.2.1 u.2.2) := hD
    refine W.widen (k := 1) (n := 6) (Nat.le_of_ble_eq_true rfl) (Nat.le_of_ble_eq_true rfl) ?_
    exact W.iret hx hb hr (fun t ht _ => ⟨⟨_, (u.1, u.2.1, u.2.2, vp_updL f (0 : Int32).toNatClampNeg r.toInt64), rfl, Or.inl ⟨rfl, r, show vp_updL f (0 : Int32).toNatClampNeg r.toInt64 (0 : Int32).toNatClampNeg = r.toInt64 from pk_uLs, hok⟩, by rw [ht]; exact hP, hD⟩, hS.F ht⟩) hS.2.2 dL_stateOf_16
theorem kL_lenders_0 : (.classLink RL 27 "java/lang/IndexOutOfBoundsException" : Cond) ∈ wsL_lenders := by decide +kernel
set_option maxRecDepth 100000 in
set_option maxHeartbeats 4000000 in
theorem c_L_lenders (l : Launch) (hfl : l.stackTraces = false) (dC : Nat → ClassId) (dI : Nat → Nat → Nat) (cI cJ : ClassId) (o : Nat) (f : Nat → Int64) (b0 : Nat) (qh qs qr : Nat → Nat) (gh gs gr : St) (a1 : Int32) (ok : Int32 → St → St → St → Prop) (ek : Int32 → Prop) (hp : P_X4_lenders gh gs gr a1 ok (fun E => (E = E_i ∧ ek 1))) (sz : Nat) : Met l yL_lenders wsL_lenders { frames := 8, cells := 1, slots := 6, locals := 124 } (va_Pc [.ref b0, .int a1, .ref o] (tpS (dC, dI) vwCl [(cI, .int), (cJ, .long)] (wL o cJ f b0 qh qs qr cI gh gs gr) sz)) (va_Qi (fun (k : Int32) (u : St × St × St × (Nat → Int64)) => (k = 0 ∧ ∃ r : Int32, u.2.2.2 (0 : Int32).toNatClampNeg = r.toInt64 ∧ ok r u.1 u.2.1 u.2.2.1) ∨ (ek k ∧ u = (gh, gs, gr, f))) (fun u t => wqB (dC, dI) vwCl (wL o cJ u.2.2.2 b0 qh qs qr cI u.1 u.2.1 u.2.2.1) (va_A (wL o cJ f b0 qh qs qr cI gh gs gr) sz) t) (va_A (wL o cJ f b0 qh qs qr cI gh gs gr) sz)) 1 6 (va_A (wL o cJ f b0 qh qs qr cI gh gs gr) sz) := by
  refine tl_met (fun A => (va_Qi (fun (k : Int32) (u : St × St × St × (Nat → Int64)) => (k = 0 ∧ ∃ r : Int32, u.2.2.2 (0 : Int32).toNatClampNeg = r.toInt64 ∧ ok r u.1 u.2.1 u.2.2.1) ∨ (ek k ∧ u = (gh, gs, gr, f))) (fun u t => wqB (dC, dI) vwCl (wL o cJ u.2.2.2 b0 qh qs qr cI u.1 u.2.1 u.2.2.1) A t) A)) (cc := cL_lenders) (maxL := 4) (ret := (some .int)) (by decide) rfl (Nat.le_of_ble_eq_true rfl) ?_
  intro p e s m below meth c A hx hb hml hr hlk htab hts hown hP hK hN hD hA hXS hXH ls hl
  have hS : va_S A s.heap s.heap [] := va_S.rf
  have hl : lv_has ls 4 [(0, .ref b0), (1, .int a1), (2, .ref o)] := hl
  refine lv_aload_n hx hb dL_lenders_0 rfl (lv_at hl 2 rfl) ?_
  refine lv_iconst (v := 0) hx hb dL_lenders_1 (by decide) ?_
  refine lv_aload_n hx hb dL_lenders_2 rfl (lv_at hl 0 rfl) ?_
  refine lv_iload_n hx hb dL_lenders_3 rfl (lv_at hl 1 rfl) ?_
  refine tx_V (As := [.int a1]) (rest := [.int 0, .ref o]) (w1 := [(o, .inl (cJ, 1, .inr (.inl f)))]) (w2 := []) (wsd := fun u : St × St × St => wL o cJ f b0 qh qs qr cI u.1 u.2.1 u.2.2) ⟨hx, hb, hml, hown, hts⟩ (c_X4_lenders l hfl dC dI cI b0 qh qs qr gh gs gr a1 ok _ hp _) (cwV 1 hts gL_lenders_X4_lenders rfl rfl rfl (by decide +kernel) ⟨Nat.le_of_ble_eq_true rfl, Nat.le_of_ble_eq_true rfl⟩) hP hD hS hA (hK.sub [0] rfl) hN hXS hXH (wL_eq o cJ f b0 qh qs qr cI gh gs gr) (fun u => (wL_eq o cJ f b0 qh qs qr cI u.1 u.2.1 u.2.2).symm) rfl rfl rfl rfl hl.1 (Nat.le_of_ble_eq_true rfl) ⟨Nat.le_of_ble_eq_true rfl, Nat.le_of_ble_eq_true rfl⟩ dL_lenders_4 ?_ ?_
  · intro E ce q9 H locs hpx hP hS hce hcv hcl
    rcases hpx with ⟨rfl, hek⟩
    · refine vx_catch (name := "java/lang/IndexOutOfBoundsException") hown [] (⟨0, 9, 12, 27⟩ : ExceptionTableEntry) [] (htab.trans rfl) (fun z hz => nomatch hz) rfl (by decide) (hts _ kL_lenders_0) (va_Nw.use rfl hXS.2.2.2.1) hce hcv hcl ?_
      refine lv_astore_n (lv' := [(3, .ref q9), (0, .ref b0), (1, .int a1), (2, .ref o)]) hx hb dL_lenders_12 rfl hl (by decide) rfl (fun ls hl => ?_)
      refine lv_iconst (v := 1) hx hb dL_lenders_13 (by decide) ?_
      refine W.widen (k := 1) (n := 6) (Nat.le_of_ble_eq_true rfl) (Nat.le_of_ble_eq_true rfl) ?_
      exact W.iret hx hb hr (fun t ht _ => ⟨⟨_, (gh, gs, gr, f), rfl, Or.inr ⟨hek, rfl⟩, by rw [ht]; exact hP, hD⟩, hS.F ht⟩) hS.2.2 dL_lenders_14
  · intro r u H locs hok hP hD hS
    refine lv_i2l hx hb dL_lenders_7 rfl ?_
    refine va_last hx hb hK hP hD hS 0 1 rfl rfl vp01 dL_lenders_8 (fun H locs hP hD hS => ?_)
    refine lv_goto (tgt := 15) hx hb dL_lenders_9 (by decide) ?_
    refine lv_iconst (v := 0) hx hb dL_lenders_15 (by decide) ?_
    have hP : va_P (dC, dI) vwCl (wL o cJ (vp_updL f (0 : Int32).toNatClampNeg r.toInt64) b0 qh qs qr cI u.1 u.2.1 u.2.2) H := hP
    have hD : va_D A (wL o cJ (vp_updL f (0 : Int32).toNatClampNeg r.toInt64) b0 qh qs qr cI u.1 u.2.1 u.2.2) := hD
    refine W.widen (k := 1) (n := 6) (Nat.le_of_ble_eq_true rfl) (Nat.le_of_ble_eq_true rfl) ?_
    exact W.iret hx hb hr (fun t ht _ => ⟨⟨_, (u.1, u.2.1, u.2.2, vp_updL f (0 : Int32).toNatClampNeg r.toInt64), rfl, Or.inl ⟨rfl, r, show vp_updL f (0 : Int32).toNatClampNeg r.toInt64 (0 : Int32).toNatClampNeg = r.toInt64 from pk_uLs, hok⟩, by rw [ht]; exact hP, hD⟩, hS.F ht⟩) hS.2.2 dL_lenders_16
theorem kL_copyOf_0 : (.classLink RL 27 "java/lang/IndexOutOfBoundsException" : Cond) ∈ wsL_copyOf := by decide +kernel
set_option maxRecDepth 100000 in
set_option maxHeartbeats 4000000 in
theorem c_L_copyOf (l : Launch) (hfl : l.stackTraces = false) (dC : Nat → ClassId) (dI : Nat → Nat → Nat) (cI cJ : ClassId) (o : Nat) (f : Nat → Int64) (b0 : Nat) (qh qs qr : Nat → Nat) (gh gs gr : St) (a1 : Int32) (ok : Int32 → St → St → St → Prop) (ek : Int32 → Prop) (hp : P_X4_copyOf gh gs gr a1 ok (fun E => (E = E_i ∧ ek 1))) (sz : Nat) : Met l yL_copyOf wsL_copyOf { frames := 8, cells := 1, slots := 6, locals := 124 } (va_Pc [.ref b0, .int a1, .ref o] (tpS (dC, dI) vwCl [(cI, .int), (cJ, .long)] (wL o cJ f b0 qh qs qr cI gh gs gr) sz)) (va_Qi (fun (k : Int32) (u : St × St × St × (Nat → Int64)) => (k = 0 ∧ ∃ r : Int32, u.2.2.2 (0 : Int32).toNatClampNeg = r.toInt64 ∧ ok r u.1 u.2.1 u.2.2.1) ∨ (ek k ∧ u = (gh, gs, gr, f))) (fun u t => wqB (dC, dI) vwCl (wL o cJ u.2.2.2 b0 qh qs qr cI u.1 u.2.1 u.2.2.1) (va_A (wL o cJ f b0 qh qs qr cI gh gs gr) sz) t) (va_A (wL o cJ f b0 qh qs qr cI gh gs gr) sz)) 1 6 (va_A (wL o cJ f b0 qh qs qr cI gh gs gr) sz) := by
  refine tl_met (fun A => (va_Qi (fun (k : Int32) (u : St × St × St × (Nat → Int64)) => (k = 0 ∧ ∃ r : Int32, u.2.2.2 (0 : Int32).toNatClampNeg = r.toInt64 ∧ ok r u.1 u.2.1 u.2.2.1) ∨ (ek k ∧ u = (gh, gs, gr, f))) (fun u t => wqB (dC, dI) vwCl (wL o cJ u.2.2.2 b0 qh qs qr cI u.1 u.2.1 u.2.2.1) A t) A)) (cc := cL_copyOf) (maxL := 4) (ret := (some .int)) (by decide) rfl (Nat.le_of_ble_eq_true rfl) ?_
  intro p e s m below meth c A hx hb hml hr hlk htab hts hown hP hK hN hD hA hXS hXH ls hl
  have hS : va_S A s.heap s.heap [] := va_S.rf
  have hl : lv_has ls 4 [(0, .ref b0), (1, .int a1), (2, .ref o)] := hl
  refine lv_aload_n hx hb dL_copyOf_0 rfl (lv_at hl 2 rfl) ?_
  refine lv_iconst (v := 0) hx hb dL_copyOf_1 (by decide) ?_
  refine lv_aload_n hx hb dL_copyOf_2 rfl (lv_at hl 0 rfl) ?_
  refine lv_iload_n hx hb dL_copyOf_3 rfl (lv_at hl 1 rfl) ?_
  refine tx_V (As := [.int a1]) (rest := [.int 0, .ref o]) (w1 := [(o, .inl (cJ, 1, .inr (.inl f)))]) (w2 := []) (wsd := fun u : St × St × St => wL o cJ f b0 qh qs qr cI u.1 u.2.1 u.2.2) ⟨hx, hb, hml, hown, hts⟩ (c_X4_copyOf l hfl dC dI cI b0 qh qs qr gh gs gr a1 ok _ hp _) (cwV 1 hts gL_copyOf_X4_copyOf rfl rfl rfl (by decide +kernel) ⟨Nat.le_of_ble_eq_true rfl, Nat.le_of_ble_eq_true rfl⟩) hP hD hS hA (hK.sub [0] rfl) hN hXS hXH (wL_eq o cJ f b0 qh qs qr cI gh gs gr) (fun u => (wL_eq o cJ f b0 qh qs qr cI u.1 u.2.1 u.2.2).symm) rfl rfl rfl rfl hl.1 (Nat.le_of_ble_eq_true rfl) ⟨Nat.le_of_ble_eq_true rfl, Nat.le_of_ble_eq_true rfl⟩ dL_copyOf_4 ?_ ?_
  · intro E ce q9 H locs hpx hP hS hce hcv hcl
    rcases hpx with ⟨rfl, hek⟩
    · refine vx_catch (name := "java/lang/IndexOutOfBoundsException") hown [] (⟨0, 9, 12, 27⟩ : ExceptionTableEntry) [] (htab.trans rfl) (fun z hz => nomatch hz) rfl (by decide) (hts _ kL_copyOf_0) (va_Nw.use rfl hXS.2.2.2.1) hce hcv hcl ?_
      refine lv_astore_n (lv' := [(3, .ref q9), (0, .ref b0), (1, .int a1), (2, .ref o)]) hx hb dL_copyOf_12 rfl hl (by decide) rfl (fun ls hl => ?_)
      refine lv_iconst (v := 1) hx hb dL_copyOf_13 (by decide) ?_
      refine W.widen (k := 1) (n := 6) (Nat.le_of_ble_eq_true rfl) (Nat.le_of_ble_eq_true rfl) ?_
      exact W.iret hx hb hr (fun t ht _ => ⟨⟨_, (gh, gs, gr, f), rfl, Or.inr ⟨hek, rfl⟩, by rw [ht]; exact hP, hD⟩, hS.F ht⟩) hS.2.2 dL_copyOf_14
  · intro r u H locs hok hP hD hS
    refine lv_i2l hx hb dL_copyOf_7 rfl ?_
    refine va_last hx hb hK hP hD hS 0 1 rfl rfl vp01 dL_copyOf_8 (fun H locs hP hD hS => ?_)
    refine lv_goto (tgt := 15) hx hb dL_copyOf_9 (by decide) ?_
    refine lv_iconst (v := 0) hx hb dL_copyOf_15 (by decide) ?_
    have hP : va_P (dC, dI) vwCl (wL o cJ (vp_updL f (0 : Int32).toNatClampNeg r.toInt64) b0 qh qs qr cI u.1 u.2.1 u.2.2) H := hP
    have hD : va_D A (wL o cJ (vp_updL f (0 : Int32).toNatClampNeg r.toInt64) b0 qh qs qr cI u.1 u.2.1 u.2.2) := hD
    refine W.widen (k := 1) (n := 6) (Nat.le_of_ble_eq_true rfl) (Nat.le_of_ble_eq_true rfl) ?_
    exact W.iret hx hb hr (fun t ht _ => ⟨⟨_, (u.1, u.2.1, u.2.2, vp_updL f (0 : Int32).toNatClampNeg r.toInt64), rfl, Or.inl ⟨rfl, r, show vp_updL f (0 : Int32).toNatClampNeg r.toInt64 (0 : Int32).toNatClampNeg = r.toInt64 from pk_uLs, hok⟩, by rw [ht]; exact hP, hD⟩, hS.F ht⟩) hS.2.2 dL_copyOf_16
theorem kL_ruling_0 : (.classLink RL 27 "java/lang/IndexOutOfBoundsException" : Cond) ∈ wsL_ruling := by decide +kernel
theorem kL_ruling_1 : (.classLink RL 15 "java/lang/IllegalStateException" : Cond) ∈ wsL_ruling := by decide +kernel
set_option maxRecDepth 100000 in
set_option maxHeartbeats 4000000 in
theorem c_L_ruling (l : Launch) (hfl : l.stackTraces = false) (dC : Nat → ClassId) (dI : Nat → Nat → Nat) (cI cJ : ClassId) (o : Nat) (f : Nat → Int64) (b0 : Nat) (qh qs qr : Nat → Nat) (gh gs gr : St) (a1 : Int32) (ok : Int32 → St → St → St → Prop) (ek : Int32 → Prop) (hp : P_X4_ruling gh gs gr a1 ok (fun E => (E = E_i ∧ ek 1) ∨ (E = E_s ∧ ek 2))) (sz : Nat) : Met l yL_ruling wsL_ruling { frames := 8, cells := 2, slots := 12, locals := 124 } (va_Pc [.ref b0, .int a1, .ref o] (tpS (dC, dI) vwCl [(cI, .int), (cJ, .long)] (wL o cJ f b0 qh qs qr cI gh gs gr) sz)) (va_Qi (fun (k : Int32) (u : St × St × St × (Nat → Int64)) => (k = 0 ∧ ∃ r : Int32, u.2.2.2 (0 : Int32).toNatClampNeg = r.toInt64 ∧ ok r u.1 u.2.1 u.2.2.1) ∨ (ek k ∧ u = (gh, gs, gr, f))) (fun u t => wqB (dC, dI) vwCl (wL o cJ u.2.2.2 b0 qh qs qr cI u.1 u.2.1 u.2.2.1) (va_A (wL o cJ f b0 qh qs qr cI gh gs gr) sz) t) (va_A (wL o cJ f b0 qh qs qr cI gh gs gr) sz)) 2 12 (va_A (wL o cJ f b0 qh qs qr cI gh gs gr) sz) := by
  refine tl_met (fun A => (va_Qi (fun (k : Int32) (u : St × St × St × (Nat → Int64)) => (k = 0 ∧ ∃ r : Int32, u.2.2.2 (0 : Int32).toNatClampNeg = r.toInt64 ∧ ok r u.1 u.2.1 u.2.2.1) ∨ (ek k ∧ u = (gh, gs, gr, f))) (fun u t => wqB (dC, dI) vwCl (wL o cJ u.2.2.2 b0 qh qs qr cI u.1 u.2.1 u.2.2.1) A t) A)) (cc := cL_ruling) (maxL := 4) (ret := (some .int)) (by decide) rfl (Nat.le_of_ble_eq_true rfl) ?_
  intro p e s m below meth c A hx hb hml hr hlk htab hts hown hP hK hN hD hA hXS hXH ls hl
  have hS : va_S A s.heap s.heap [] := va_S.rf
  have hl : lv_has ls 4 [(0, .ref b0), (1, .int a1), (2, .ref o)] := hl
  refine lv_aload_n hx hb dL_ruling_0 rfl (lv_at hl 2 rfl) ?_
  refine lv_iconst (v := 0) hx hb dL_ruling_1 (by decide) ?_
  refine lv_aload_n hx hb dL_ruling_2 rfl (lv_at hl 0 rfl) ?_
  refine lv_iload_n hx hb dL_ruling_3 rfl (lv_at hl 1 rfl) ?_
  refine tx_V (As := [.int a1]) (rest := [.int 0, .ref o]) (w1 := [(o, .inl (cJ, 1, .inr (.inl f)))]) (w2 := []) (wsd := fun u : St × St × St => wL o cJ f b0 qh qs qr cI u.1 u.2.1 u.2.2) ⟨hx, hb, hml, hown, hts⟩ (c_X4_ruling l hfl dC dI cI b0 qh qs qr gh gs gr a1 ok _ hp _) (cwV 1 hts gL_ruling_X4_ruling rfl rfl rfl (by decide +kernel) ⟨Nat.le_of_ble_eq_true rfl, Nat.le_of_ble_eq_true rfl⟩) hP hD hS hA (hK.sub [0] rfl) hN hXS hXH (wL_eq o cJ f b0 qh qs qr cI gh gs gr) (fun u => (wL_eq o cJ f b0 qh qs qr cI u.1 u.2.1 u.2.2).symm) rfl rfl rfl rfl hl.1 (Nat.le_of_ble_eq_true rfl) ⟨Nat.le_of_ble_eq_true rfl, Nat.le_of_ble_eq_true rfl⟩ dL_ruling_4 ?_ ?_
  · intro E ce q9 H locs hpx hP hS hce hcv hcl
    rcases hpx with ⟨rfl, hek⟩ | ⟨rfl, hek⟩
    · refine vx_catch (name := "java/lang/IndexOutOfBoundsException") hown [] (⟨0, 9, 12, 27⟩ : ExceptionTableEntry) [(⟨0, 9, 15, 15⟩ : ExceptionTableEntry)] (htab.trans rfl) (fun z hz => nomatch hz) rfl (by decide) (hts _ kL_ruling_0) (va_Nw.use rfl hXS.2.2.2.1) hce hcv hcl ?_
      refine lv_astore_n (lv' := [(3, .ref q9), (0, .ref b0), (1, .int a1), (2, .ref o)]) hx hb dL_ruling_12 rfl hl (by decide) rfl (fun ls hl => ?_)
      refine lv_iconst (v := 1) hx hb dL_ruling_13 (by decide) ?_
      refine W.widen (k := 2) (n := 12) (Nat.le_of_ble_eq_true rfl) (Nat.le_of_ble_eq_true rfl) ?_
      exact W.iret hx hb hr (fun t ht _ => ⟨⟨_, (gh, gs, gr, f), rfl, Or.inr ⟨hek, rfl⟩, by rw [ht]; exact hP, hD⟩, hS.F ht⟩) hS.2.2 dL_ruling_14
    · refine vx_catch (name := "java/lang/IllegalStateException") hown [(⟨0, 9, 12, 27⟩ : ExceptionTableEntry)] (⟨0, 9, 15, 15⟩ : ExceptionTableEntry) [] (htab.trans rfl) (fun z hz => by rw [List.mem_singleton] at hz; subst hz; exact Or.inr ⟨by decide, E_i, hts _ kL_ruling_0, hXS.2.2.2.2.2.2.2.1⟩) rfl (by decide) (hts _ kL_ruling_1) (va_Nw.use rfl hXS.2.2.2.2.2.1) hce hcv hcl ?_
      refine lv_astore_n (lv' := [(3, .ref q9), (0, .ref b0), (1, .int a1), (2, .ref o)]) hx hb dL_ruling_15 rfl hl (by decide) rfl (fun ls hl => ?_)
      refine lv_iconst (v := 2) hx hb dL_ruling_16 (by decide) ?_
      refine W.widen (k := 2) (n := 12) (Nat.le_of_ble_eq_true rfl) (Nat.le_of_ble_eq_true rfl) ?_
      exact W.iret hx hb hr (fun t ht _ => ⟨⟨_, (gh, gs, gr, f), rfl, Or.inr ⟨hek, rfl⟩, by rw [ht]; exact hP, hD⟩, hS.F ht⟩) hS.2.2 dL_ruling_17
  · intro r u H locs hok hP hD hS
    refine lv_i2l hx hb dL_ruling_7 rfl ?_
    refine va_last hx hb hK hP hD hS 0 1 rfl rfl vp01 dL_ruling_8 (fun H locs hP hD hS => ?_)
    refine lv_goto (tgt := 18) hx hb dL_ruling_9 (by decide) ?_
    refine lv_iconst (v := 0) hx hb dL_ruling_18 (by decide) ?_
    have hP : va_P (dC, dI) vwCl (wL o cJ (vp_updL f (0 : Int32).toNatClampNeg r.toInt64) b0 qh qs qr cI u.1 u.2.1 u.2.2) H := hP
    have hD : va_D A (wL o cJ (vp_updL f (0 : Int32).toNatClampNeg r.toInt64) b0 qh qs qr cI u.1 u.2.1 u.2.2) := hD
    refine W.widen (k := 2) (n := 12) (Nat.le_of_ble_eq_true rfl) (Nat.le_of_ble_eq_true rfl) ?_
    exact W.iret hx hb hr (fun t ht _ => ⟨⟨_, (u.1, u.2.1, u.2.2, vp_updL f (0 : Int32).toNatClampNeg r.toInt64), rfl, Or.inl ⟨rfl, r, show vp_updL f (0 : Int32).toNatClampNeg r.toInt64 (0 : Int32).toNatClampNeg = r.toInt64 from pk_uLs, hok⟩, by rw [ht]; exact hP, hD⟩, hS.F ht⟩) hS.2.2 dL_ruling_19
theorem kL_rulingFromBelow_0 : (.classLink RL 27 "java/lang/IndexOutOfBoundsException" : Cond) ∈ wsL_rulingFromBelow := by decide +kernel
theorem kL_rulingFromBelow_1 : (.classLink RL 15 "java/lang/IllegalStateException" : Cond) ∈ wsL_rulingFromBelow := by decide +kernel
set_option maxRecDepth 100000 in
set_option maxHeartbeats 4000000 in
theorem c_L_rulingFromBelow (l : Launch) (hfl : l.stackTraces = false) (dC : Nat → ClassId) (dI : Nat → Nat → Nat) (cI cJ : ClassId) (o : Nat) (f : Nat → Int64) (b0 : Nat) (qh qs qr : Nat → Nat) (gh gs gr : St) (a1 : Int32) (ok : Int32 → St → St → St → Prop) (ek : Int32 → Prop) (hp : P_X4_rulingFromBelow gh gs gr a1 ok (fun E => (E = E_i ∧ ek 1) ∨ (E = E_s ∧ ek 2))) (sz : Nat) : Met l yL_rulingFromBelow wsL_rulingFromBelow { frames := 8, cells := 2, slots := 12, locals := 138 } (va_Pc [.ref b0, .int a1, .ref o] (tpS (dC, dI) vwCl [(cI, .int), (cJ, .long)] (wL o cJ f b0 qh qs qr cI gh gs gr) sz)) (va_Qi (fun (k : Int32) (u : St × St × St × (Nat → Int64)) => (k = 0 ∧ ∃ r : Int32, u.2.2.2 (0 : Int32).toNatClampNeg = r.toInt64 ∧ ok r u.1 u.2.1 u.2.2.1) ∨ (ek k ∧ u = (gh, gs, gr, f))) (fun u t => wqB (dC, dI) vwCl (wL o cJ u.2.2.2 b0 qh qs qr cI u.1 u.2.1 u.2.2.1) (va_A (wL o cJ f b0 qh qs qr cI gh gs gr) sz) t) (va_A (wL o cJ f b0 qh qs qr cI gh gs gr) sz)) 2 12 (va_A (wL o cJ f b0 qh qs qr cI gh gs gr) sz) := by
  refine tl_met (fun A => (va_Qi (fun (k : Int32) (u : St × St × St × (Nat → Int64)) => (k = 0 ∧ ∃ r : Int32, u.2.2.2 (0 : Int32).toNatClampNeg = r.toInt64 ∧ ok r u.1 u.2.1 u.2.2.1) ∨ (ek k ∧ u = (gh, gs, gr, f))) (fun u t => wqB (dC, dI) vwCl (wL o cJ u.2.2.2 b0 qh qs qr cI u.1 u.2.1 u.2.2.1) A t) A)) (cc := cL_rulingFromBelow) (maxL := 4) (ret := (some .int)) (by decide) rfl (Nat.le_of_ble_eq_true rfl) ?_
  intro p e s m below meth c A hx hb hml hr hlk htab hts hown hP hK hN hD hA hXS hXH ls hl
  have hS : va_S A s.heap s.heap [] := va_S.rf
  have hl : lv_has ls 4 [(0, .ref b0), (1, .int a1), (2, .ref o)] := hl
  refine lv_aload_n hx hb dL_rulingFromBelow_0 rfl (lv_at hl 2 rfl) ?_
  refine lv_iconst (v := 0) hx hb dL_rulingFromBelow_1 (by decide) ?_
  refine lv_aload_n hx hb dL_rulingFromBelow_2 rfl (lv_at hl 0 rfl) ?_
  refine lv_iload_n hx hb dL_rulingFromBelow_3 rfl (lv_at hl 1 rfl) ?_
  refine tx_V (As := [.int a1]) (rest := [.int 0, .ref o]) (w1 := [(o, .inl (cJ, 1, .inr (.inl f)))]) (w2 := []) (wsd := fun u : St × St × St => wL o cJ f b0 qh qs qr cI u.1 u.2.1 u.2.2) ⟨hx, hb, hml, hown, hts⟩ (c_X4_rulingFromBelow l hfl dC dI cI b0 qh qs qr gh gs gr a1 ok _ hp _) (cwV 1 hts gL_rulingFromBelow_X4_rulingFromBelow rfl rfl rfl (by decide +kernel) ⟨Nat.le_of_ble_eq_true rfl, Nat.le_of_ble_eq_true rfl⟩) hP hD hS hA (hK.sub [0] rfl) hN hXS hXH (wL_eq o cJ f b0 qh qs qr cI gh gs gr) (fun u => (wL_eq o cJ f b0 qh qs qr cI u.1 u.2.1 u.2.2).symm) rfl rfl rfl rfl hl.1 (Nat.le_of_ble_eq_true rfl) ⟨Nat.le_of_ble_eq_true rfl, Nat.le_of_ble_eq_true rfl⟩ dL_rulingFromBelow_4 ?_ ?_
  · intro E ce q9 H locs hpx hP hS hce hcv hcl
    rcases hpx with ⟨rfl, hek⟩ | ⟨rfl, hek⟩
    · refine vx_catch (name := "java/lang/IndexOutOfBoundsException") hown [] (⟨0, 9, 12, 27⟩ : ExceptionTableEntry) [(⟨0, 9, 15, 15⟩ : ExceptionTableEntry)] (htab.trans rfl) (fun z hz => nomatch hz) rfl (by decide) (hts _ kL_rulingFromBelow_0) (va_Nw.use rfl hXS.2.2.2.1) hce hcv hcl ?_
      refine lv_astore_n (lv' := [(3, .ref q9), (0, .ref b0), (1, .int a1), (2, .ref o)]) hx hb dL_rulingFromBelow_12 rfl hl (by decide) rfl (fun ls hl => ?_)
      refine lv_iconst (v := 1) hx hb dL_rulingFromBelow_13 (by decide) ?_
      refine W.widen (k := 2) (n := 12) (Nat.le_of_ble_eq_true rfl) (Nat.le_of_ble_eq_true rfl) ?_
      exact W.iret hx hb hr (fun t ht _ => ⟨⟨_, (gh, gs, gr, f), rfl, Or.inr ⟨hek, rfl⟩, by rw [ht]; exact hP, hD⟩, hS.F ht⟩) hS.2.2 dL_rulingFromBelow_14
    · refine vx_catch (name := "java/lang/IllegalStateException") hown [(⟨0, 9, 12, 27⟩ : ExceptionTableEntry)] (⟨0, 9, 15, 15⟩ : ExceptionTableEntry) [] (htab.trans rfl) (fun z hz => by rw [List.mem_singleton] at hz; subst hz; exact Or.inr ⟨by decide, E_i, hts _ kL_rulingFromBelow_0, hXS.2.2.2.2.2.2.2.1⟩) rfl (by decide) (hts _ kL_rulingFromBelow_1) (va_Nw.use rfl hXS.2.2.2.2.2.1) hce hcv hcl ?_
      refine lv_astore_n (lv' := [(3, .ref q9), (0, .ref b0), (1, .int a1), (2, .ref o)]) hx hb dL_rulingFromBelow_15 rfl hl (by decide) rfl (fun ls hl => ?_)
      refine lv_iconst (v := 2) hx hb dL_rulingFromBelow_16 (by decide) ?_
      refine W.widen (k := 2) (n := 12) (Nat.le_of_ble_eq_true rfl) (Nat.le_of_ble_eq_true rfl) ?_
      exact W.iret hx hb hr (fun t ht _ => ⟨⟨_, (gh, gs, gr, f), rfl, Or.inr ⟨hek, rfl⟩, by rw [ht]; exact hP, hD⟩, hS.F ht⟩) hS.2.2 dL_rulingFromBelow_17
  · intro r u H locs hok hP hD hS
    refine lv_i2l hx hb dL_rulingFromBelow_7 rfl ?_
    refine va_last hx hb hK hP hD hS 0 1 rfl rfl vp01 dL_rulingFromBelow_8 (fun H locs hP hD hS => ?_)
    refine lv_goto (tgt := 18) hx hb dL_rulingFromBelow_9 (by decide) ?_
    refine lv_iconst (v := 0) hx hb dL_rulingFromBelow_18 (by decide) ?_
    have hP : va_P (dC, dI) vwCl (wL o cJ (vp_updL f (0 : Int32).toNatClampNeg r.toInt64) b0 qh qs qr cI u.1 u.2.1 u.2.2) H := hP
    have hD : va_D A (wL o cJ (vp_updL f (0 : Int32).toNatClampNeg r.toInt64) b0 qh qs qr cI u.1 u.2.1 u.2.2) := hD
    refine W.widen (k := 2) (n := 12) (Nat.le_of_ble_eq_true rfl) (Nat.le_of_ble_eq_true rfl) ?_
    exact W.iret hx hb hr (fun t ht _ => ⟨⟨_, (u.1, u.2.1, u.2.2, vp_updL f (0 : Int32).toNatClampNeg r.toInt64), rfl, Or.inl ⟨rfl, r, show vp_updL f (0 : Int32).toNatClampNeg r.toInt64 (0 : Int32).toNatClampNeg = r.toInt64 from pk_uLs, hok⟩, by rw [ht]; exact hP, hD⟩, hS.F ht⟩) hS.2.2 dL_rulingFromBelow_19
theorem kL_depth_0 : (.classLink RL 27 "java/lang/IndexOutOfBoundsException" : Cond) ∈ wsL_depth := by decide +kernel
set_option maxRecDepth 100000 in
set_option maxHeartbeats 4000000 in
theorem c_L_depth (l : Launch) (hfl : l.stackTraces = false) (dC : Nat → ClassId) (dI : Nat → Nat → Nat) (cI cJ : ClassId) (o : Nat) (f : Nat → Int64) (b0 : Nat) (qh qs qr : Nat → Nat) (gh gs gr : St) (a1 : Int32) (ok : Int32 → St → St → St → Prop) (ek : Int32 → Prop) (hp : P_X4_depth gh gs gr a1 ok (fun E => (E = E_i ∧ ek 1))) (sz : Nat) : Met l yL_depth wsL_depth { frames := 8, cells := 1, slots := 6, locals := 124 } (va_Pc [.ref b0, .int a1, .ref o] (tpS (dC, dI) vwCl [(cI, .int), (cJ, .long)] (wL o cJ f b0 qh qs qr cI gh gs gr) sz)) (va_Qi (fun (k : Int32) (u : St × St × St × (Nat → Int64)) => (k = 0 ∧ ∃ r : Int32, u.2.2.2 (0 : Int32).toNatClampNeg = r.toInt64 ∧ ok r u.1 u.2.1 u.2.2.1) ∨ (ek k ∧ u = (gh, gs, gr, f))) (fun u t => wqB (dC, dI) vwCl (wL o cJ u.2.2.2 b0 qh qs qr cI u.1 u.2.1 u.2.2.1) (va_A (wL o cJ f b0 qh qs qr cI gh gs gr) sz) t) (va_A (wL o cJ f b0 qh qs qr cI gh gs gr) sz)) 1 6 (va_A (wL o cJ f b0 qh qs qr cI gh gs gr) sz) := by
  refine tl_met (fun A => (va_Qi (fun (k : Int32) (u : St × St × St × (Nat → Int64)) => (k = 0 ∧ ∃ r : Int32, u.2.2.2 (0 : Int32).toNatClampNeg = r.toInt64 ∧ ok r u.1 u.2.1 u.2.2.1) ∨ (ek k ∧ u = (gh, gs, gr, f))) (fun u t => wqB (dC, dI) vwCl (wL o cJ u.2.2.2 b0 qh qs qr cI u.1 u.2.1 u.2.2.1) A t) A)) (cc := cL_depth) (maxL := 4) (ret := (some .int)) (by decide) rfl (Nat.le_of_ble_eq_true rfl) ?_
  intro p e s m below meth c A hx hb hml hr hlk htab hts hown hP hK hN hD hA hXS hXH ls hl
  have hS : va_S A s.heap s.heap [] := va_S.rf
  have hl : lv_has ls 4 [(0, .ref b0), (1, .int a1), (2, .ref o)] := hl
  refine lv_aload_n hx hb dL_depth_0 rfl (lv_at hl 2 rfl) ?_
  refine lv_iconst (v := 0) hx hb dL_depth_1 (by decide) ?_
  refine lv_aload_n hx hb dL_depth_2 rfl (lv_at hl 0 rfl) ?_
  refine lv_iload_n hx hb dL_depth_3 rfl (lv_at hl 1 rfl) ?_
  refine tx_V (As := [.int a1]) (rest := [.int 0, .ref o]) (w1 := [(o, .inl (cJ, 1, .inr (.inl f)))]) (w2 := []) (wsd := fun u : St × St × St => wL o cJ f b0 qh qs qr cI u.1 u.2.1 u.2.2) ⟨hx, hb, hml, hown, hts⟩ (c_X4_depth l hfl dC dI cI b0 qh qs qr gh gs gr a1 ok _ hp _) (cwV 1 hts gL_depth_X4_depth rfl rfl rfl (by decide +kernel) ⟨Nat.le_of_ble_eq_true rfl, Nat.le_of_ble_eq_true rfl⟩) hP hD hS hA (hK.sub [0] rfl) hN hXS hXH (wL_eq o cJ f b0 qh qs qr cI gh gs gr) (fun u => (wL_eq o cJ f b0 qh qs qr cI u.1 u.2.1 u.2.2).symm) rfl rfl rfl rfl hl.1 (Nat.le_of_ble_eq_true rfl) ⟨Nat.le_of_ble_eq_true rfl, Nat.le_of_ble_eq_true rfl⟩ dL_depth_4 ?_ ?_
  · intro E ce q9 H locs hpx hP hS hce hcv hcl
    rcases hpx with ⟨rfl, hek⟩
    · refine vx_catch (name := "java/lang/IndexOutOfBoundsException") hown [] (⟨0, 9, 12, 27⟩ : ExceptionTableEntry) [] (htab.trans rfl) (fun z hz => nomatch hz) rfl (by decide) (hts _ kL_depth_0) (va_Nw.use rfl hXS.2.2.2.1) hce hcv hcl ?_
      refine lv_astore_n (lv' := [(3, .ref q9), (0, .ref b0), (1, .int a1), (2, .ref o)]) hx hb dL_depth_12 rfl hl (by decide) rfl (fun ls hl => ?_)
      refine lv_iconst (v := 1) hx hb dL_depth_13 (by decide) ?_
      refine W.widen (k := 1) (n := 6) (Nat.le_of_ble_eq_true rfl) (Nat.le_of_ble_eq_true rfl) ?_
      exact W.iret hx hb hr (fun t ht _ => ⟨⟨_, (gh, gs, gr, f), rfl, Or.inr ⟨hek, rfl⟩, by rw [ht]; exact hP, hD⟩, hS.F ht⟩) hS.2.2 dL_depth_14
  · intro r u H locs hok hP hD hS
    refine lv_i2l hx hb dL_depth_7 rfl ?_
    refine va_last hx hb hK hP hD hS 0 1 rfl rfl vp01 dL_depth_8 (fun H locs hP hD hS => ?_)
    refine lv_goto (tgt := 15) hx hb dL_depth_9 (by decide) ?_
    refine lv_iconst (v := 0) hx hb dL_depth_15 (by decide) ?_
    have hP : va_P (dC, dI) vwCl (wL o cJ (vp_updL f (0 : Int32).toNatClampNeg r.toInt64) b0 qh qs qr cI u.1 u.2.1 u.2.2) H := hP
    have hD : va_D A (wL o cJ (vp_updL f (0 : Int32).toNatClampNeg r.toInt64) b0 qh qs qr cI u.1 u.2.1 u.2.2) := hD
    refine W.widen (k := 1) (n := 6) (Nat.le_of_ble_eq_true rfl) (Nat.le_of_ble_eq_true rfl) ?_
    exact W.iret hx hb hr (fun t ht _ => ⟨⟨_, (u.1, u.2.1, u.2.2, vp_updL f (0 : Int32).toNatClampNeg r.toInt64), rfl, Or.inl ⟨rfl, r, show vp_updL f (0 : Int32).toNatClampNeg r.toInt64 (0 : Int32).toNatClampNeg = r.toInt64 from pk_uLs, hok⟩, by rw [ht]; exact hP, hD⟩, hS.F ht⟩) hS.2.2 dL_depth_16
