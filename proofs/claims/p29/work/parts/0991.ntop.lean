/-! THE CLASS ITSELF WHERE NO CHECK THROWS -/
def QcVoid : Array Value → State → Outcome → State → Prop := fun _ st o t => o = .returned none ∧ t.heap = st.heap
theorem rv_met {l : Launch} {y : MethodName} {ws ws' : List Cond} {rm : Room} {cc : ByteArray} {maxL : Nat} {ret : Option FieldType} {D : va_G} {cl : List vw_C} {tys : List (ClassId × FieldType)} {wc : va_W} {av : List Value}
    (hy : plainName y.cls = true) (hw : ws = Cond.code y cc maxL ret :: ws') (hn : (lg_sl av).length ≤ maxL)
    (body : ∀ (p : Program) (e : Env) (s : State) (m : MethodId) (below : List Frame) (meth : Method) (c : Code), p.tables.exec = Jvm.exec → c.code = cc → c.maxLocals = maxL → meth.sig.returnType = ret → meth.locks = false → (∀ w ∈ ws, w.before av.toArray s = true) → s.vm.findClass y.cls = some m.cls →
      ∀ ls : Array Slot, lv_has ls maxL (lv_args 0 av) → W p l e rm s m av.toArray below meth c s.heap [] 0 0 (MQ below QcVoid av.toArray s 0 0 (fun _ => False)) (F0 m 0 ls [])) :
    Met l y ws rm (va_Pc av (rpS D cl tys wc)) QcVoid 0 0 (fun _ => False) := by
  refine Met.ofW (cc := cc) (maxL := maxL) (ret := ret) hy hw ?_
  intro p e s m args below meth c s₁ B hml hv
  obtain ⟨rfl, hP, hK, hN⟩ := hv
  have hl := lv_entry av (n := maxL) hn
  rw [lg_entry_eq]
  exact body p e s m below meth c B.exec B.bytes hml B.returns B.notSynchronized (atoms_spec (ws := ws) B.pre) (findClass_of_methodNamed B.named) _ hl
set_option maxRecDepth 100000 in
set_option maxHeartbeats 4000000 in
theorem cn_X4_checkIndex (l : Launch) {D : va_G} {cl : List vw_C} {tys : List (ClassId × FieldType)} {wc : va_W} (a0 a1 : Int32) (hok : ¬ a0 < 0 ∧ a0 < a1) : Met l yX4_checkIndex wsX4_checkIndex { frames := 0, cells := 0, slots := 0, locals := 0 } (va_Pc [.int a0, .int a1] (rpS D cl tys wc)) QcVoid 0 0 (fun _ => False) := by
  refine rv_met (cc := cX4_checkIndex) (maxL := 2) (ret := none) (by decide) rfl (Nat.le_of_ble_eq_true rfl) ?_
  intro p e s m below meth c hx hb hml hr hlk hts hown ls hl
  have hl : lv_has ls 2 [(0, .int a0), (1, .int a1)] := hl
  refine lv_iload_n hx hb dX4_checkIndex_0 rfl (lv_at hl 0 rfl) ?_
  refine lv_if_lt (tgt := 9) hx hb dX4_checkIndex_1 (by decide) (fun c1 => absurd c1 hok.1) (fun c1 => ?_)
  refine lv_iload_n hx hb dX4_checkIndex_4 rfl (lv_at hl 0 rfl) ?_
  refine lv_iload_n hx hb dX4_checkIndex_5 rfl (lv_at hl 1 rfl) ?_
  refine lv_icmp_lt (tgt := 19) hx hb dX4_checkIndex_6 (by decide) (fun c2 => ?_) (fun c2 => absurd hok.2 c2)
  exact W.vret hx hb hr (fun t ht _ => ⟨rfl, ht⟩) (fun _ h => nomatch h) dX4_checkIndex_19
set_option maxRecDepth 100000 in
set_option maxHeartbeats 4000000 in
theorem cn_X4_checkRange (l : Launch) {D : va_G} {cl : List vw_C} {tys : List (ClassId × FieldType)} {wc : va_W} (a0 a1 a2 : Int32) (hok : ¬ a0 < a1 ∧ a0 ≤ a2) : Met l yX4_checkRange wsX4_checkRange { frames := 0, cells := 0, slots := 0, locals := 0 } (va_Pc [.int a0, .int a1, .int a2] (rpS D cl tys wc)) QcVoid 0 0 (fun _ => False) := by
  refine rv_met (cc := cX4_checkRange) (maxL := 3) (ret := none) (by decide) rfl (Nat.le_of_ble_eq_true rfl) ?_
  intro p e s m below meth c hx hb hml hr hlk hts hown ls hl
  have hl : lv_has ls 3 [(0, .int a0), (1, .int a1), (2, .int a2)] := hl
  refine lv_iload_n hx hb dX4_checkRange_0 rfl (lv_at hl 0 rfl) ?_
  refine lv_iload_n hx hb dX4_checkRange_1 rfl (lv_at hl 1 rfl) ?_
  refine lv_icmp_lt (tgt := 10) hx hb dX4_checkRange_2 (by decide) (fun c1 => absurd c1 hok.1) (fun c1 => ?_)
  refine lv_iload_n hx hb dX4_checkRange_5 rfl (lv_at hl 0 rfl) ?_
  refine lv_iload_n hx hb dX4_checkRange_6 rfl (lv_at hl 2 rfl) ?_
  refine lv_icmp_le (tgt := 20) hx hb dX4_checkRange_7 (by decide) (fun c2 => ?_) (fun c2 => absurd hok.2 c2)
  exact W.vret hx hb hr (fun t ht _ => ⟨rfl, ht⟩) (fun _ h => nomatch h) dX4_checkRange_20
set_option maxRecDepth 100000 in
set_option maxHeartbeats 4000000 in
theorem cn_X4_checkState (l : Launch) {D : va_G} {cl : List vw_C} {tys : List (ClassId × FieldType)} {wc : va_W} (a0 : Int32) (hok : ¬ a0 = 0) : Met l yX4_checkState wsX4_checkState { frames := 0, cells := 0, slots := 0, locals := 0 } (va_Pc [.int a0] (rpS D cl tys wc)) QcVoid 0 0 (fun _ => False) := by
  refine rv_met (cc := cX4_checkState) (maxL := 1) (ret := none) (by decide) rfl (Nat.le_of_ble_eq_true rfl) ?_
  intro p e s m below meth c hx hb hml hr hlk hts hown ls hl
  have hl : lv_has ls 1 [(0, .int a0)] := hl
  refine lv_iload_n hx hb dX4_checkState_0 rfl (lv_at hl 0 rfl) ?_
  refine lv_if_ne (tgt := 14) hx hb dX4_checkState_1 (by decide) (fun c1 => ?_) (fun c1 => absurd c1 hok)
  exact W.vret hx hb hr (fun t ht _ => ⟨rfl, ht⟩) (fun _ h => nomatch h) dX4_checkState_14
section RVS
variable {p : Program} {l : Launch} {e : Env} {R : Room} {s : State} {m : MethodId} {args : Array Value} {below : List Frame} {meth : Method} {c : Code} {H : Heap} {locs : List Loc} {cells slots : Nat} {Q : State → Prop}
variable {pc : Nat} {ls : Array Slot} {rest st0 : List Value}
theorem rv_go {mc ms : Nat} {a : Array Value} (hm : mc = 0) (hs : ms = 0) (hr : va_Run p l e R s m args below meth c H locs cells slots mc ms (F0 m pc ls st0) rest (QcVoid a) (fun _ => False)) (kk : W p l e R s m args below meth c H locs cells slots Q (F0 m (pc + 3) ls rest)) : W p l e R s m args below meth c H locs cells slots Q (F0 m pc ls st0) := by
  subst hm; subst hs
  intro T hT X
  obtain ⟨v, st₀, t, T', L, h0, X', hL, e1, e2, ⟨hv, hh⟩, st⟩ := hr T hT X
  cases hv
  obtain ⟨t2, a1, b1⟩ := kk T' (by rw [e1, hh, h0]) (Stand.forget X' (fun q h => (hL q h).elim))
  exact ⟨t2, st t2 a1, b1⟩
variable {y : MethodName} {bytes cc : ByteArray} {maxL nL n index : Nat} {ret : Option FieldType} {ws : List Cond} {rm : Room} {Ts : List Cond} {own : String} {As : List Value} {D : va_G} {cl : List vw_C} {tys : List (ClassId × FieldType)} {wc : va_W}
theorem rv_S (S : CallFix p m c cc nL s args Ts own) (hM : Met l y ws rm (va_Pc As (rpS D cl tys wc)) QcVoid 0 0 (fun _ => False)) (cw : CallB R s args own index y bytes maxL ret ws rm 0 0 n ∧ (Cond.static y).before args s = true) (hP : va_P D cl wc H) (hK : va_K D cl tys s) (hN : nw s)
    (hst : st0 = As.reverse ++ rest) (hn : As.length = n) (hsize : ls.size = nL) (hW : (rest.map fun v => v.category).sum ≤ 8) (hf : cells ≤ R.cells ∧ slots ≤ R.slots) (hdg : decode cc pc = .ok (.invokestatic index, 3))
    (kk : W p l e R s m args below meth c H locs cells slots Q (F0 m (pc + 3) ls rest)) : W p l e R s m args below meth c H locs cells slots Q (F0 m pc ls st0) :=
  rv_go rfl rfl (va_runS (As := As) (rest := rest) S hM cw ⟨rp_blind, fun U hU hW => ⟨rfl, by rw [hU]; exact hP, va_K.moved hW.alike hK, nw_warm hW hN⟩⟩ rfl hn hsize hst (lv_room hW) hdg hf) kk
end RVS
theorem knX4_pass_0 : (.fieldLink RX4 10 "Meeplehouse" "hall" "LMeeplehouse$Hall;" : Cond) ∈ wsX4_pass := by decide +kernel
theorem inX4_pass_X4 : ∀ w ∈ wsX40, w ∈ wsX4_pass := by decide +kernel
theorem inX4_pass_X0 : ∀ w ∈ wsX00, w ∈ wsX4_pass := by decide +kernel
def Pn_X4_pass (gh gs gr : St) (a1 : Int32) (ok : Int32 → St → St → St → Prop) : Prop := ∀ V28 : Int32 → Prop, (∀ t0 : Int32, ((¬ t0 = 0) ∧ (∀ g2 : St, g2 = st_set gh 0 0 ((gh 0 0) + a1) → (ok (g2 0 0) g2 gs gr))) → V28 t0) → ((¬ a1 < (1 : Int32) ∧ a1 ≤ (500 : Int32)) ∧ (((20000 : Int32) < ((gh 0 0) + a1) → (V28 (0 : Int32))) ∧ (¬ (20000 : Int32) < ((gh 0 0) + a1) → (V28 (1 : Int32)))))
set_option maxRecDepth 100000 in
set_option maxHeartbeats 4000000 in
theorem cn_X4_pass (l : Launch) (dC : Nat → ClassId) (dI : Nat → Nat → Nat) (cI : ClassId) (b0 : Nat) (qh qs qr : Nat → Nat) (gh gs gr : St) (a1 : Int32) (ok : Int32 → St → St → St → Prop) (hp : Pn_X4_pass gh gs gr a1 ok) (sz : Nat) : Met l yX4_pass wsX4_pass { frames := 7, cells := 0, slots := 0, locals := 104 } (va_Pc [.ref b0, .int a1] (wpS (dC, dI) vwCl [(cI, .int)] (wX4 b0 qh qs qr cI gh gs gr) sz)) (va_Qi (fun (r : Int32) (u : St × St × St) => ok r u.1 u.2.1 u.2.2) (fun u t => wqB (dC, dI) vwCl (wX4 b0 qh qs qr cI u.1 u.2.1 u.2.2) (va_A (wX4 b0 qh qs qr cI gh gs gr) sz) t) (va_A (wX4 b0 qh qs qr cI gh gs gr) sz)) 0 0 (va_A (wX4 b0 qh qs qr cI gh gs gr) sz) := by
  refine wr_met (fun A => (va_Qi (fun (r : Int32) (u : St × St × St) => ok r u.1 u.2.1 u.2.2) (fun u t => wqB (dC, dI) vwCl (wX4 b0 qh qs qr cI u.1 u.2.1 u.2.2) A t) A)) (cc := cX4_pass) (maxL := 2) (ret := (some .int)) (by decide) rfl (Nat.le_of_ble_eq_true rfl) ?_
  intro p e s m below meth c A hx hb hml hr hlk hts hown hnm hP hK hN hD hA ls hl
  have hS : va_S A s.heap s.heap [] := va_S.rf
  have hl : lv_has ls 2 [(0, .ref b0), (1, .int a1)] := hl
  obtain ⟨V28, eV28⟩ : ∃ V : Int32 → Prop, V = (fun t0 => ∀ ls : Array Slot, lv_has ls 2 [(0, .ref b0), (1, .int a1)] → W p l e { frames := 7, cells := 0, slots := 0, locals := 104 } s m ([.ref b0, .int a1] : List Value).toArray below meth c s.heap [] 0 0 (MQ below (va_Qi (fun (r : Int32) (u : St × St × St) => ok r u.1 u.2.1 u.2.2) (fun u t => wqB (dC, dI) vwCl (wX4 b0 qh qs qr cI u.1 u.2.1 u.2.2) A t) A) ([.ref b0, .int a1] : List Value).toArray s 0 0 A) (F0 m 28 ls [.int t0])) := ⟨_, rfl⟩
  have hp := hp V28
  have hp := hp (by
    intro t0 hp
    rw [eV28]
    intro ls hl
    refine rv_S (As := [.int t0]) (rest := []) ⟨hx, hb, hml, hown, hts⟩ (cn_X4_checkState l (wc := []) t0 hp.1) (va_cwS 1 hts gX4_pass_X4_checkState rfl rfl rfl (by decide +kernel) ⟨Nat.le_of_ble_eq_true rfl, Nat.le_of_ble_eq_true rfl⟩) (hP.sub [] rfl) hK hN rfl rfl hl.1 (Nat.le_of_ble_eq_true rfl) ⟨Nat.zero_le _, Nat.zero_le _⟩ dX4_pass_28 ?_
    have hp := hp.2
    refine lv_aload_n hx hb dX4_pass_31 rfl (lv_at hl 0 rfl) ?_
    refine va_get (D := (dC, dI)) (ci := 4) (v := .ref (qh 0)) (C := RX4) (T := TX4) (N := 3) hx hb hts inX4_pass_X4 hown hK hP 0 rfl rfl 0 (by decide) (hts _ knX4_pass_0) (fun _ h9 => h9) rfl dX4_pass_32 ?_
    refine lv_dup hx hb dX4_pass_35 rfl ?_
    refine va_getN (D := (dC, dI)) (ci := 0) (v := .int (gh 0 0)) (C := RX0) (T := TX0) (N := 9) (host := RX4) hx hb hts inX4_pass_X0 hown hK (t4h hP) 0 rfl rfl 0 (by decide) (nw_use hN 6 rfl) (fun _ h9 => h9) rfl dX4_pass_36 ?_
    refine lv_iload_n hx hb dX4_pass_39 rfl (lv_at hl 1 rfl) ?_
    refine lv_iadd hx hb dX4_pass_40 ?_
    refine va_putN (D := (dC, dI)) (ci := 0) (v := .int ((gh 0 0) + a1)) (ty := .int) (C := RX0) (T := TX0) (N := 9) (host := RX4) hx hb hts inX4_pass_X0 tyX0 tyX0_ok nmX0 hown hK hP hD hS 1 rfl rfl 0 (by decide) (nw_use hN 6 rfl) (fun _ h9 => h9) rfl (by decide +kernel) rfl rfl (Nat.le_of_ble_eq_true rfl) dX4_pass_41 (fun H locs hP hD hS => ?_)
    obtain ⟨g2, eg2⟩ : ∃ z : St, z = st_set gh 0 0 ((gh 0 0) + a1) := ⟨_, rfl⟩
    have hp := hp g2 eg2
    have hP : va_P (dC, dI) vwCl (wX4 b0 qh qs qr cI g2 gs gr) H := by rw [eg2]; exact hP
    have hD : va_D A (wX4 b0 qh qs qr cI g2 gs gr) := by rw [eg2]; exact hD
    refine lv_aload_n hx hb dX4_pass_44 rfl (lv_at hl 0 rfl) ?_
    refine va_get (D := (dC, dI)) (ci := 4) (v := .ref (qh 0)) (C := RX4) (T := TX4) (N := 3) hx hb hts inX4_pass_X4 hown hK hP 0 rfl rfl 0 (by decide) (hts _ knX4_pass_0) (fun _ h9 => h9) rfl dX4_pass_45 ?_
    refine va_getN (D := (dC, dI)) (ci := 0) (v := .int (g2 0 0)) (C := RX0) (T := TX0) (N := 9) (host := RX4) hx hb hts inX4_pass_X0 hown hK (t4h hP) 0 rfl rfl 0 (by decide) (nw_use hN 6 rfl) (fun _ h9 => h9) rfl dX4_pass_48 ?_
    exact W.iret hx hb hr (fun t ht _ => ⟨⟨_, (g2, gs, gr), rfl, hp, by rw [ht]; exact hP, hD⟩, hS.F ht⟩) hS.2.2 dX4_pass_51)
  refine lv_iload_n hx hb dX4_pass_0 rfl (lv_at hl 1 rfl) ?_
  refine lv_iconst (v := 1) hx hb dX4_pass_1 (by decide) ?_
  refine lv_sipush (v := 500) hx hb dX4_pass_2 (by decide) ?_
  refine rv_S (As := [.int a1, .int (1 : Int32), .int (500 : Int32)]) (rest := []) ⟨hx, hb, hml, hown, hts⟩ (cn_X4_checkRange l (wc := []) a1 (1 : Int32) (500 : Int32) hp.1) (va_cwS 3 hts gX4_pass_X4_checkRange rfl rfl rfl (by decide +kernel) ⟨Nat.le_of_ble_eq_true rfl, Nat.le_of_ble_eq_true rfl⟩) (hP.sub [] rfl) hK hN rfl rfl hl.1 (Nat.le_of_ble_eq_true rfl) ⟨Nat.zero_le _, Nat.zero_le _⟩ dX4_pass_5 ?_
  have hp := hp.2
  refine lv_aload_n hx hb dX4_pass_8 rfl (lv_at hl 0 rfl) ?_
  refine va_get (D := (dC, dI)) (ci := 4) (v := .ref (qh 0)) (C := RX4) (T := TX4) (N := 3) hx hb hts inX4_pass_X4 hown hK hP 0 rfl rfl 0 (by decide) (hts _ knX4_pass_0) (fun _ h9 => h9) rfl dX4_pass_9 ?_
  refine va_getN (D := (dC, dI)) (ci := 0) (v := .int (gh 0 0)) (C := RX0) (T := TX0) (N := 9) (host := RX4) hx hb hts inX4_pass_X0 hown hK (t4h hP) 0 rfl rfl 0 (by decide) (nw_use hN 6 rfl) (fun _ h9 => h9) rfl dX4_pass_12 ?_
  refine lv_iload_n hx hb dX4_pass_15 rfl (lv_at hl 1 rfl) ?_
  refine lv_iadd hx hb dX4_pass_16 ?_
  refine lv_sipush (v := 20000) hx hb dX4_pass_17 (by decide) ?_
  refine lv_icmp_gt (tgt := 27) hx hb dX4_pass_20 (by decide) (fun c1 => ?_) (fun c1 => ?_)
  · have hp := hp.1 c1
    refine lv_iconst (v := 0) hx hb dX4_pass_27 (by decide) ?_
    rw [eV28] at hp
    exact hp _ (lv_sub hl [0, 1] rfl)
  · have hp := hp.2 c1
    refine lv_iconst (v := 1) hx hb dX4_pass_23 (by decide) ?_
    refine lv_goto (tgt := 28) hx hb dX4_pass_24 (by decide) ?_
    rw [eV28] at hp
    exact hp _ (lv_sub hl [0, 1] rfl)
theorem knX4_addTable_0 : (.fieldLink RX4 10 "Meeplehouse" "hall" "LMeeplehouse$Hall;" : Cond) ∈ wsX4_addTable := by decide +kernel
theorem inX4_addTable_X4 : ∀ w ∈ wsX40, w ∈ wsX4_addTable := by decide +kernel
theorem inX4_addTable_X0 : ∀ w ∈ wsX00, w ∈ wsX4_addTable := by decide +kernel
def Pn_X4_addTable (gh gs gr : St) (a1 : Int32) (ok : Int32 → St → St → St → Prop) : Prop := ((¬ a1 < (2 : Int32) ∧ a1 ≤ (6 : Int32)) ∧ (((10 : Int32) ≤ (gh 0 1) → ((¬ (0 : Int32) = 0) ∧ (∃ (r1 : Int32) (g2 : St), P_X0_putTable gh a1 r1 g2 ∧ (ok r1 g2 gs gr)))) ∧ (¬ (10 : Int32) ≤ (gh 0 1) → ((¬ (1 : Int32) = 0) ∧ (∃ (r3 : Int32) (g4 : St), P_X0_putTable gh a1 r3 g4 ∧ (ok r3 g4 gs gr))))))
set_option maxRecDepth 100000 in
set_option maxHeartbeats 4000000 in
theorem cn_X4_addTable (l : Launch) (dC : Nat → ClassId) (dI : Nat → Nat → Nat) (cI : ClassId) (b0 : Nat) (qh qs qr : Nat → Nat) (gh gs gr : St) (a1 : Int32) (ok : Int32 → St → St → St → Prop) (hp : Pn_X4_addTable gh gs gr a1 ok) (sz : Nat) : Met l yX4_addTable wsX4_addTable { frames := 7, cells := 0, slots := 0, locals := 104 } (va_Pc [.ref b0, .int a1] (wpS (dC, dI) vwCl [(cI, .int)] (wX4 b0 qh qs qr cI gh gs gr) sz)) (va_Qi (fun (r : Int32) (u : St × St × St) => ok r u.1 u.2.1 u.2.2) (fun u t => wqB (dC, dI) vwCl (wX4 b0 qh qs qr cI u.1 u.2.1 u.2.2) (va_A (wX4 b0 qh qs qr cI gh gs gr) sz) t) (va_A (wX4 b0 qh qs qr cI gh gs gr) sz)) 0 0 (va_A (wX4 b0 qh qs qr cI gh gs gr) sz) := by
  refine wr_met (fun A => (va_Qi (fun (r : Int32) (u : St × St × St) => ok r u.1 u.2.1 u.2.2) (fun u t => wqB (dC, dI) vwCl (wX4 b0 qh qs qr cI u.1 u.2.1 u.2.2) A t) A)) (cc := cX4_addTable) (maxL := 2) (ret := (some .int)) (by decide) rfl (Nat.le_of_ble_eq_true rfl) ?_
  intro p e s m below meth c A hx hb hml hr hlk hts hown hnm hP hK hN hD hA ls hl
  have hS : va_S A s.heap s.heap [] := va_S.rf
  have hl : lv_has ls 2 [(0, .ref b0), (1, .int a1)] := hl
  unfold Pn_X4_addTable at hp
  refine lv_iload_n hx hb dX4_addTable_0 rfl (lv_at hl 1 rfl) ?_
  refine lv_iconst (v := 2) hx hb dX4_addTable_1 (by decide) ?_
  refine lv_bipush (v := 6) hx hb dX4_addTable_2 (by decide) ?_
  refine rv_S (As := [.int a1, .int (2 : Int32), .int (6 : Int32)]) (rest := []) ⟨hx, hb, hml, hown, hts⟩ (cn_X4_checkRange l (wc := []) a1 (2 : Int32) (6 : Int32) hp.1) (va_cwS 3 hts gX4_addTable_X4_checkRange rfl rfl rfl (by decide +kernel) ⟨Nat.le_of_ble_eq_true rfl, Nat.le_of_ble_eq_true rfl⟩) (hP.sub [] rfl) hK hN rfl rfl hl.1 (Nat.le_of_ble_eq_true rfl) ⟨Nat.zero_le _, Nat.zero_le _⟩ dX4_addTable_4 ?_
  have hp := hp.2
  refine lv_aload_n hx hb dX4_addTable_7 rfl (lv_at hl 0 rfl) ?_
  refine va_get (D := (dC, dI)) (ci := 4) (v := .ref (qh 0)) (C := RX4) (T := TX4) (N := 3) hx hb hts inX4_addTable_X4 hown hK hP 0 rfl rfl 0 (by decide) (hts _ knX4_addTable_0) (fun _ h9 => h9) rfl dX4_addTable_8 ?_
  refine va_getN (D := (dC, dI)) (ci := 0) (v := .int (gh 0 1)) (C := RX0) (T := TX0) (N := 9) (host := RX4) hx hb hts inX4_addTable_X0 hown hK (t4h hP) 0 rfl rfl 1 (by decide) (nw_use hN 7 rfl) (fun _ h9 => h9) rfl dX4_addTable_11 ?_
  refine lv_bipush (v := 10) hx hb dX4_addTable_14 (by decide) ?_
  refine lv_icmp_ge (tgt := 23) hx hb dX4_addTable_16 (by decide) (fun c5 => ?_) (fun c5 => ?_)
  · have hp := hp.1 c5
    refine lv_iconst (v := 0) hx hb dX4_addTable_23 (by decide) ?_
    refine rv_S (As := [.int (0 : Int32)]) (rest := []) ⟨hx, hb, hml, hown, hts⟩ (cn_X4_checkState l (wc := []) (0 : Int32) hp.1) (va_cwS 1 hts gX4_addTable_X4_checkState rfl rfl rfl (by decide +kernel) ⟨Nat.le_of_ble_eq_true rfl, Nat.le_of_ble_eq_true rfl⟩) (hP.sub [] rfl) hK hN rfl rfl hl.1 (Nat.le_of_ble_eq_true rfl) ⟨Nat.zero_le _, Nat.zero_le _⟩ dX4_addTable_24 ?_
    have hp := hp.2
    refine lv_aload_n hx hb dX4_addTable_27 rfl (lv_at hl 0 rfl) ?_
    refine va_get (D := (dC, dI)) (ci := 4) (v := .ref (qh 0)) (C := RX4) (T := TX4) (N := 3) hx hb hts inX4_addTable_X4 hown hK hP 0 rfl rfl 0 (by decide) (hts _ knX4_addTable_0) (fun _ h9 => h9) rfl dX4_addTable_28 ?_
    refine lv_iload_n hx hb dX4_addTable_31 rfl (lv_at hl 1 rfl) ?_
    obtain ⟨r1, g2, hg2, hp⟩ := hp
    refine wr_Vi (As := [.int a1]) (rest := []) (ws1 := wX4 b0 qh qs qr cI g2 gs gr) ⟨hx, hb, hml, hown, hts⟩ (c_X0_putTable l dC dI cI qh gh a1 r1 g2 hg2 _) (cwV 1 hts gX4_addTable_X0_putTable rfl rfl rfl (by decide +kernel) ⟨Nat.le_of_ble_eq_true rfl, Nat.le_of_ble_eq_true rfl⟩) hP hD hS hA hK hN (w4h b0 qh qs qr cI gh gs gr) (w4h b0 qh qs qr cI g2 gs gr).symm rfl rfl rfl rfl hl.1 (Nat.le_of_ble_eq_true rfl) ⟨Nat.le_of_ble_eq_true rfl, Nat.le_of_ble_eq_true rfl⟩ dX4_addTable_32 (fun H locs hP hD hS => ?_)
    exact W.iret hx hb hr (fun t ht _ => ⟨⟨_, (g2, gs, gr), rfl, hp, by rw [ht]; exact hP, hD⟩, hS.F ht⟩) hS.2.2 dX4_addTable_35
  · have hp := hp.2 c5
    refine lv_iconst (v := 1) hx hb dX4_addTable_19 (by decide) ?_
    refine lv_goto (tgt := 24) hx hb dX4_addTable_20 (by decide) ?_
    refine rv_S (As := [.int (1 : Int32)]) (rest := []) ⟨hx, hb, hml, hown, hts⟩ (cn_X4_checkState l (wc := []) (1 : Int32) hp.1) (va_cwS 1 hts gX4_addTable_X4_checkState rfl rfl rfl (by decide +kernel) ⟨Nat.le_of_ble_eq_true rfl, Nat.le_of_ble_eq_true rfl⟩) (hP.sub [] rfl) hK hN rfl rfl hl.1 (Nat.le_of_ble_eq_true rfl) ⟨Nat.zero_le _, Nat.zero_le _⟩ dX4_addTable_24 ?_
    have hp := hp.2
    refine lv_aload_n hx hb dX4_addTable_27 rfl (lv_at hl 0 rfl) ?_
    refine va_get (D := (dC, dI)) (ci := 4) (v := .ref (qh 0)) (C := RX4) (T := TX4) (N := 3) hx hb hts inX4_addTable_X4 hown hK hP 0 rfl rfl 0 (by decide) (hts _ knX4_addTable_0) (fun _ h9 => h9) rfl dX4_addTable_28 ?_
    refine lv_iload_n hx hb dX4_addTable_31 rfl (lv_at hl 1 rfl) ?_
    obtain ⟨r3, g4, hg4, hp⟩ := hp
    refine wr_Vi (As := [.int a1]) (rest := []) (ws1 := wX4 b0 qh qs qr cI g4 gs gr) ⟨hx, hb, hml, hown, hts⟩ (c_X0_putTable l dC dI cI qh gh a1 r3 g4 hg4 _) (cwV 1 hts gX4_addTable_X0_putTable rfl rfl rfl (by decide +kernel) ⟨Nat.le_of_ble_eq_true rfl, Nat.le_of_ble_eq_true rfl⟩) hP hD hS hA hK hN (w4h b0 qh qs qr cI gh gs gr) (w4h b0 qh qs qr cI g4 gs gr).symm rfl rfl rfl rfl hl.1 (Nat.le_of_ble_eq_true rfl) ⟨Nat.le_of_ble_eq_true rfl, Nat.le_of_ble_eq_true rfl⟩ dX4_addTable_32 (fun H locs hP hD hS => ?_)
    exact W.iret hx hb hr (fun t ht _ => ⟨⟨_, (g4, gs, gr), rfl, hp, by rw [ht]; exact hP, hD⟩, hS.F ht⟩) hS.2.2 dX4_addTable_35
theorem knX4_addTitle_0 : (.fieldLink RX4 19 "Meeplehouse" "shelf" "LMeeplehouse$Shelf;" : Cond) ∈ wsX4_addTitle := by decide +kernel
theorem inX4_addTitle_X4 : ∀ w ∈ wsX40, w ∈ wsX4_addTitle := by decide +kernel
theorem inX4_addTitle_X3 : ∀ w ∈ wsX30, w ∈ wsX4_addTitle := by decide +kernel
def Pn_X4_addTitle (gh gs gr : St) (a1 : Int32) (a2 : Int32) (a3 : Int32) (a4 : Int32) (a5 : Int32) (a6 : Int32) (a7 : Int32) (ok : Int32 → St → St → St → Prop) : Prop := ∀ V71 : Int32 → Prop, (∀ t0 : Int32, ((¬ t0 = 0) ∧ (∃ (r2 : Int32) (g3 : St), P_X3_putTitle gs a1 a2 a3 r2 g3 ∧ (∃ g5 : St, P_X3_setFull g3 r2 (0 : Int32) a4 g5 ∧ (∃ g7 : St, P_X3_setFull g5 r2 (1 : Int32) a5 g7 ∧ (∃ g9 : St, P_X3_setFull g7 r2 (2 : Int32) a6 g9 ∧ (∃ g11 : St, P_X3_setFull g9 r2 (3 : Int32) a7 g11 ∧ (ok r2 gh g11 gr))))))) → V71 t0) → ((¬ a1 < (1 : Int32) ∧ a1 ≤ (12 : Int32)) ∧ ((¬ a2 < a1 ∧ a2 ≤ (12 : Int32)) ∧ ((¬ a3 < (5 : Int32) ∧ a3 ≤ (300 : Int32)) ∧ ((¬ a4 < (0 : Int32) ∧ a4 ≤ (9 : Int32)) ∧ ((¬ a5 < (0 : Int32) ∧ a5 ≤ (9 : Int32)) ∧ ((¬ a6 < (0 : Int32) ∧ a6 ≤ (9 : Int32)) ∧ ((¬ a7 < (0 : Int32) ∧ a7 ≤ (9 : Int32)) ∧ (((8 : Int32) ≤ (gs 0 0) → (V71 (0 : Int32))) ∧ (¬ (8 : Int32) ≤ (gs 0 0) → (V71 (1 : Int32)))))))))))
set_option maxRecDepth 100000 in
set_option maxHeartbeats 4000000 in
theorem cn_X4_addTitle (l : Launch) (dC : Nat → ClassId) (dI : Nat → Nat → Nat) (cI : ClassId) (b0 : Nat) (qh qs qr : Nat → Nat) (gh gs gr : St) (a1 : Int32) (a2 : Int32) (a3 : Int32) (a4 : Int32) (a5 : Int32) (a6 : Int32) (a7 : Int32) (ok : Int32 → St → St → St → Prop) (hp : Pn_X4_addTitle gh gs gr a1 a2 a3 a4 a5 a6 a7 ok) (sz : Nat) : Met l yX4_addTitle wsX4_addTitle { frames := 7, cells := 0, slots := 0, locals := 104 } (va_Pc [.ref b0, .int a1, .int a2, .int a3, .int a4, .int a5, .int a6, .int a7] (wpS (dC, dI) vwCl [(cI, .int)] (wX4 b0 qh qs qr cI gh gs gr) sz)) (va_Qi (fun (r : Int32) (u : St × St × St) => ok r u.1 u.2.1 u.2.2) (fun u t => wqB (dC, dI) vwCl (wX4 b0 qh qs qr cI u.1 u.2.1 u.2.2) (va_A (wX4 b0 qh qs qr cI gh gs gr) sz) t) (va_A (wX4 b0 qh qs qr cI gh gs gr) sz)) 0 0 (va_A (wX4 b0 qh qs qr cI gh gs gr) sz) := by
  refine wr_met (fun A => (va_Qi (fun (r : Int32) (u : St × St × St) => ok r u.1 u.2.1 u.2.2) (fun u t => wqB (dC, dI) vwCl (wX4 b0 qh qs qr cI u.1 u.2.1 u.2.2) A t) A)) (cc := cX4_addTitle) (maxL := 9) (ret := (some .int)) (by decide) rfl (Nat.le_of_ble_eq_true rfl) ?_
  intro p e s m below meth c A hx hb hml hr hlk hts hown hnm hP hK hN hD hA ls hl
  have hS : va_S A s.heap s.heap [] := va_S.rf
  have hl : lv_has ls 9 [(0, .ref b0), (1, .int a1), (2, .int a2), (3, .int a3), (4, .int a4), (5, .int a5), (6, .int a6), (7, .int a7)] := hl
  obtain ⟨V71, eV71⟩ : ∃ V : Int32 → Prop, V = (fun t0 => ∀ ls : Array Slot, lv_has ls 9 [(0, .ref b0), (1, .int a1), (2, .int a2), (3, .int a3), (4, .int a4), (5, .int a5), (6, .int a6), (7, .int a7)] → W p l e { frames := 7, cells := 0, slots := 0, locals := 104 } s m ([.ref b0, .int a1, .int a2, .int a3, .int a4, .int a5, .int a6, .int a7] : List Value).toArray below meth c s.heap [] 0 0 (MQ below (va_Qi (fun (r : Int32) (u : St × St × St) => ok r u.1 u.2.1 u.2.2) (fun u t => wqB (dC, dI) vwCl (wX4 b0 qh qs qr cI u.1 u.2.1 u.2.2) A t) A) ([.ref b0, .int a1, .int a2, .int a3, .int a4, .int a5, .int a6, .int a7] : List Value).toArray s 0 0 A) (F0 m 71 ls [.int t0])) := ⟨_, rfl⟩
  have hp := hp V71
  have hp := hp (by
    intro t0 hp
    rw [eV71]
    intro ls hl
    refine rv_S (As := [.int t0]) (rest := []) ⟨hx, hb, hml, hown, hts⟩ (cn_X4_checkState l (wc := []) t0 hp.1) (va_cwS 1 hts gX4_addTitle_X4_checkState rfl rfl rfl (by decide +kernel) ⟨Nat.le_of_ble_eq_true rfl, Nat.le_of_ble_eq_true rfl⟩) (hP.sub [] rfl) hK hN rfl rfl hl.1 (Nat.le_of_ble_eq_true rfl) ⟨Nat.zero_le _, Nat.zero_le _⟩ dX4_addTitle_71 ?_
    have hp := hp.2
    refine lv_aload_n hx hb dX4_addTitle_74 rfl (lv_at hl 0 rfl) ?_
    refine va_get (D := (dC, dI)) (ci := 4) (v := .ref (qs 0)) (C := RX4) (T := TX4) (N := 3) hx hb hts inX4_addTitle_X4 hown hK hP 0 rfl rfl 1 (by decide) (hts _ knX4_addTitle_0) (fun _ h9 => h9) rfl dX4_addTitle_75 ?_
    refine lv_iload_n hx hb dX4_addTitle_78 rfl (lv_at hl 1 rfl) ?_
    refine lv_iload_n hx hb dX4_addTitle_79 rfl (lv_at hl 2 rfl) ?_
    refine lv_iload_n hx hb dX4_addTitle_80 rfl (lv_at hl 3 rfl) ?_
    obtain ⟨r2, g3, hg3, hp⟩ := hp
    refine wr_Vi (As := [.int a1, .int a2, .int a3]) (rest := []) (ws1 := wX4 b0 qh qs qr cI gh g3 gr) ⟨hx, hb, hml, hown, hts⟩ (c_X3_putTitle l dC dI cI qs gs a1 a2 a3 r2 g3 hg3 _) (cwV 3 hts gX4_addTitle_X3_putTitle rfl rfl rfl (by decide +kernel) ⟨Nat.le_of_ble_eq_true rfl, Nat.le_of_ble_eq_true rfl⟩) hP hD hS hA hK hN (w4s b0 qh qs qr cI gh gs gr) (w4s b0 qh qs qr cI gh g3 gr).symm rfl rfl rfl rfl hl.1 (Nat.le_of_ble_eq_true rfl) ⟨Nat.le_of_ble_eq_true rfl, Nat.le_of_ble_eq_true rfl⟩ dX4_addTitle_81 (fun H locs hP hD hS => ?_)
    refine lv_istore (lv' := [(8, .int r2), (0, .ref b0), (1, .int a1), (2, .int a2), (3, .int a3), (4, .int a4), (5, .int a5), (6, .int a6), (7, .int a7)]) hx hb dX4_addTitle_84 hl (by decide) rfl (fun ls hl => ?_)
    refine lv_aload_n hx hb dX4_addTitle_86 rfl (lv_at hl 1 rfl) ?_
    refine va_get (D := (dC, dI)) (ci := 4) (v := .ref (qs 0)) (C := RX4) (T := TX4) (N := 3) hx hb hts inX4_addTitle_X4 hown hK hP 0 rfl rfl 1 (by decide) (hts _ knX4_addTitle_0) (fun _ h9 => h9) rfl dX4_addTitle_87 ?_
    refine lv_iload hx hb dX4_addTitle_90 (lv_at hl 0 rfl) ?_
    refine lv_iconst (v := 0) hx hb dX4_addTitle_92 (by decide) ?_
    refine lv_iload hx hb dX4_addTitle_93 (lv_at hl 5 rfl) ?_
    obtain ⟨g5, hg5, hp⟩ := hp
    refine wr_Vv (As := [.int r2, .int (0 : Int32), .int a4]) (rest := []) (ws1 := wX4 b0 qh qs qr cI gh g5 gr) ⟨hx, hb, hml, hown, hts⟩ (c_X3_setFull l dC dI cI qs g3 r2 (0 : Int32) a4 g5 hg5 _) (cwV 3 hts gX4_addTitle_X3_setFull rfl rfl rfl (by decide +kernel) ⟨Nat.le_of_ble_eq_true rfl, Nat.le_of_ble_eq_true rfl⟩) hP hD hS hA hK hN (w4s b0 qh qs qr cI gh g3 gr) (w4s b0 qh qs qr cI gh g5 gr).symm rfl rfl rfl rfl hl.1 (Nat.le_of_ble_eq_true rfl) ⟨Nat.le_of_ble_eq_true rfl, Nat.le_of_ble_eq_true rfl⟩ dX4_addTitle_95 (fun H locs hP hD hS => ?_)
    refine lv_aload_n hx hb dX4_addTitle_98 rfl (lv_at hl 1 rfl) ?_
    refine va_get (D := (dC, dI)) (ci := 4) (v := .ref (qs 0)) (C := RX4) (T := TX4) (N := 3) hx hb hts inX4_addTitle_X4 hown hK hP 0 rfl rfl 1 (by decide) (hts _ knX4_addTitle_0) (fun _ h9 => h9) rfl dX4_addTitle_99 ?_
    refine lv_iload hx hb dX4_addTitle_102 (lv_at hl 0 rfl) ?_
    refine lv_iconst (v := 1) hx hb dX4_addTitle_104 (by decide) ?_
    refine lv_iload hx hb dX4_addTitle_105 (lv_at hl 6 rfl) ?_
    obtain ⟨g7, hg7, hp⟩ := hp
    refine wr_Vv (As := [.int r2, .int (1 : Int32), .int a5]) (rest := []) (ws1 := wX4 b0 qh qs qr cI gh g7 gr) ⟨hx, hb, hml, hown, hts⟩ (c_X3_setFull l dC dI cI qs g5 r2 (1 : Int32) a5 g7 hg7 _) (cwV 3 hts gX4_addTitle_X3_setFull rfl rfl rfl (by decide +kernel) ⟨Nat.le_of_ble_eq_true rfl, Nat.le_of_ble_eq_true rfl⟩) hP hD hS hA hK hN (w4s b0 qh qs qr cI gh g5 gr) (w4s b0 qh qs qr cI gh g7 gr).symm rfl rfl rfl rfl hl.1 (Nat.le_of_ble_eq_true rfl) ⟨Nat.le_of_ble_eq_true rfl, Nat.le_of_ble_eq_true rfl⟩ dX4_addTitle_107 (fun H locs hP hD hS => ?_)
    refine lv_aload_n hx hb dX4_addTitle_110 rfl (lv_at hl 1 rfl) ?_
    refine va_get (D := (dC, dI)) (ci := 4) (v := .ref (qs 0)) (C := RX4) (T := TX4) (N := 3) hx hb hts inX4_addTitle_X4 hown hK hP 0 rfl rfl 1 (by decide) (hts _ knX4_addTitle_0) (fun _ h9 => h9) rfl dX4_addTitle_111 ?_
    refine lv_iload hx hb dX4_addTitle_114 (lv_at hl 0 rfl) ?_
    refine lv_iconst (v := 2) hx hb dX4_addTitle_116 (by decide) ?_
    refine lv_iload hx hb dX4_addTitle_117 (lv_at hl 7 rfl) ?_
    obtain ⟨g9, hg9, hp⟩ := hp
    refine wr_Vv (As := [.int r2, .int (2 : Int32), .int a6]) (rest := []) (ws1 := wX4 b0 qh qs qr cI gh g9 gr) ⟨hx, hb, hml, hown, hts⟩ (c_X3_setFull l dC dI cI qs g7 r2 (2 : Int32) a6 g9 hg9 _) (cwV 3 hts gX4_addTitle_X3_setFull rfl rfl rfl (by decide +kernel) ⟨Nat.le_of_ble_eq_true rfl, Nat.le_of_ble_eq_true rfl⟩) hP hD hS hA hK hN (w4s b0 qh qs qr cI gh g7 gr) (w4s b0 qh qs qr cI gh g9 gr).symm rfl rfl rfl rfl hl.1 (Nat.le_of_ble_eq_true rfl) ⟨Nat.le_of_ble_eq_true rfl, Nat.le_of_ble_eq_true rfl⟩ dX4_addTitle_119 (fun H locs hP hD hS => ?_)
    refine lv_aload_n hx hb dX4_addTitle_122 rfl (lv_at hl 1 rfl) ?_
    refine va_get (D := (dC, dI)) (ci := 4) (v := .ref (qs 0)) (C := RX4) (T := TX4) (N := 3) hx hb hts inX4_addTitle_X4 hown hK hP 0 rfl rfl 1 (by decide) (hts _ knX4_addTitle_0) (fun _ h9 => h9) rfl dX4_addTitle_123 ?_
    refine lv_iload hx hb dX4_addTitle_126 (lv_at hl 0 rfl) ?_
    refine lv_iconst (v := 3) hx hb dX4_addTitle_128 (by decide) ?_
    refine lv_iload hx hb dX4_addTitle_129 (lv_at hl 8 rfl) ?_
    obtain ⟨g11, hg11, hp⟩ := hp
    refine wr_Vv (As := [.int r2, .int (3 : Int32), .int a7]) (rest := []) (ws1 := wX4 b0 qh qs qr cI gh g11 gr) ⟨hx, hb, hml, hown, hts⟩ (c_X3_setFull l dC dI cI qs g9 r2 (3 : Int32) a7 g11 hg11 _) (cwV 3 hts gX4_addTitle_X3_setFull rfl rfl rfl (by decide +kernel) ⟨Nat.le_of_ble_eq_true rfl, Nat.le_of_ble_eq_true rfl⟩) hP hD hS hA hK hN (w4s b0 qh qs qr cI gh g9 gr) (w4s b0 qh qs qr cI gh g11 gr).symm rfl rfl rfl rfl hl.1 (Nat.le_of_ble_eq_true rfl) ⟨Nat.le_of_ble_eq_true rfl, Nat.le_of_ble_eq_true rfl⟩ dX4_addTitle_131 (fun H locs hP hD hS => ?_)
    refine lv_iload hx hb dX4_addTitle_134 (lv_at hl 0 rfl) ?_
    exact W.iret hx hb hr (fun t ht _ => ⟨⟨_, (gh, g11, gr), rfl, hp, by rw [ht]; exact hP, hD⟩, hS.F ht⟩) hS.2.2 dX4_addTitle_136)
  refine lv_iload_n hx hb dX4_addTitle_0 rfl (lv_at hl 1 rfl) ?_
  refine lv_iconst (v := 1) hx hb dX4_addTitle_1 (by decide) ?_
  refine lv_bipush (v := 12) hx hb dX4_addTitle_2 (by decide) ?_
  refine rv_S (As := [.int a1, .int (1 : Int32), .int (12 : Int32)]) (rest := []) ⟨hx, hb, hml, hown, hts⟩ (cn_X4_checkRange l (wc := []) a1 (1 : Int32) (12 : Int32) hp.1) (va_cwS 3 hts gX4_addTitle_X4_checkRange rfl rfl rfl (by decide +kernel) ⟨Nat.le_of_ble_eq_true rfl, Nat.le_of_ble_eq_true rfl⟩) (hP.sub [] rfl) hK hN rfl rfl hl.1 (Nat.le_of_ble_eq_true rfl) ⟨Nat.zero_le _, Nat.zero_le _⟩ dX4_addTitle_4 ?_
  have hp := hp.2
  refine lv_iload_n hx hb dX4_addTitle_7 rfl (lv_at hl 2 rfl) ?_
  refine lv_iload_n hx hb dX4_addTitle_8 rfl (lv_at hl 1 rfl) ?_
  refine lv_bipush (v := 12) hx hb dX4_addTitle_9 (by decide) ?_
  refine rv_S (As := [.int a2, .int a1, .int (12 : Int32)]) (rest := []) ⟨hx, hb, hml, hown, hts⟩ (cn_X4_checkRange l (wc := []) a2 a1 (12 : Int32) hp.1) (va_cwS 3 hts gX4_addTitle_X4_checkRange rfl rfl rfl (by decide +kernel) ⟨Nat.le_of_ble_eq_true rfl, Nat.le_of_ble_eq_true rfl⟩) (hP.sub [] rfl) hK hN rfl rfl hl.1 (Nat.le_of_ble_eq_true rfl) ⟨Nat.zero_le _, Nat.zero_le _⟩ dX4_addTitle_11 ?_
  have hp := hp.2
  refine lv_iload_n hx hb dX4_addTitle_14 rfl (lv_at hl 3 rfl) ?_
  refine lv_iconst (v := 5) hx hb dX4_addTitle_15 (by decide) ?_
  refine lv_sipush (v := 300) hx hb dX4_addTitle_16 (by decide) ?_
  refine rv_S (As := [.int a3, .int (5 : Int32), .int (300 : Int32)]) (rest := []) ⟨hx, hb, hml, hown, hts⟩ (cn_X4_checkRange l (wc := []) a3 (5 : Int32) (300 : Int32) hp.1) (va_cwS 3 hts gX4_addTitle_X4_checkRange rfl rfl rfl (by decide +kernel) ⟨Nat.le_of_ble_eq_true rfl, Nat.le_of_ble_eq_true rfl⟩) (hP.sub [] rfl) hK hN rfl rfl hl.1 (Nat.le_of_ble_eq_true rfl) ⟨Nat.zero_le _, Nat.zero_le _⟩ dX4_addTitle_19 ?_
  have hp := hp.2
  refine lv_iload hx hb dX4_addTitle_22 (lv_at hl 4 rfl) ?_
  refine lv_iconst (v := 0) hx hb dX4_addTitle_24 (by decide) ?_
  refine lv_bipush (v := 9) hx hb dX4_addTitle_25 (by decide) ?_
  refine rv_S (As := [.int a4, .int (0 : Int32), .int (9 : Int32)]) (rest := []) ⟨hx, hb, hml, hown, hts⟩ (cn_X4_checkRange l (wc := []) a4 (0 : Int32) (9 : Int32) hp.1) (va_cwS 3 hts gX4_addTitle_X4_checkRange rfl rfl rfl (by decide +kernel) ⟨Nat.le_of_ble_eq_true rfl, Nat.le_of_ble_eq_true rfl⟩) (hP.sub [] rfl) hK hN rfl rfl hl.1 (Nat.le_of_ble_eq_true rfl) ⟨Nat.zero_le _, Nat.zero_le _⟩ dX4_addTitle_27 ?_
  have hp := hp.2
  refine lv_iload hx hb dX4_addTitle_30 (lv_at hl 5 rfl) ?_
  refine lv_iconst (v := 0) hx hb dX4_addTitle_32 (by decide) ?_
  refine lv_bipush (v := 9) hx hb dX4_addTitle_33 (by decide) ?_
  refine rv_S (As := [.int a5, .int (0 : Int32), .int (9 : Int32)]) (rest := []) ⟨hx, hb, hml, hown, hts⟩ (cn_X4_checkRange l (wc := []) a5 (0 : Int32) (9 : Int32) hp.1) (va_cwS 3 hts gX4_addTitle_X4_checkRange rfl rfl rfl (by decide +kernel) ⟨Nat.le_of_ble_eq_true rfl, Nat.le_of_ble_eq_true rfl⟩) (hP.sub [] rfl) hK hN rfl rfl hl.1 (Nat.le_of_ble_eq_true rfl) ⟨Nat.zero_le _, Nat.zero_le _⟩ dX4_addTitle_35 ?_
  have hp := hp.2
  refine lv_iload hx hb dX4_addTitle_38 (lv_at hl 6 rfl) ?_
  refine lv_iconst (v := 0) hx hb dX4_addTitle_40 (by decide) ?_
  refine lv_bipush (v := 9) hx hb dX4_addTitle_41 (by decide) ?_
  refine rv_S (As := [.int a6, .int (0 : Int32), .int (9 : Int32)]) (rest := []) ⟨hx, hb, hml, hown, hts⟩ (cn_X4_checkRange l (wc := []) a6 (0 : Int32) (9 : Int32) hp.1) (va_cwS 3 hts gX4_addTitle_X4_checkRange rfl rfl rfl (by decide +kernel) ⟨Nat.le_of_ble_eq_true rfl, Nat.le_of_ble_eq_true rfl⟩) (hP.sub [] rfl) hK hN rfl rfl hl.1 (Nat.le_of_ble_eq_true rfl) ⟨Nat.zero_le _, Nat.zero_le _⟩ dX4_addTitle_43 ?_
  have hp := hp.2
  refine lv_iload hx hb dX4_addTitle_46 (lv_at hl 7 rfl) ?_
  refine lv_iconst (v := 0) hx hb dX4_addTitle_48 (by decide) ?_
  refine lv_bipush (v := 9) hx hb dX4_addTitle_49 (by decide) ?_
  refine rv_S (As := [.int a7, .int (0 : Int32), .int (9 : Int32)]) (rest := []) ⟨hx, hb, hml, hown, hts⟩ (cn_X4_checkRange l (wc := []) a7 (0 : Int32) (9 : Int32) hp.1) (va_cwS 3 hts gX4_addTitle_X4_checkRange rfl rfl rfl (by decide +kernel) ⟨Nat.le_of_ble_eq_true rfl, Nat.le_of_ble_eq_true rfl⟩) (hP.sub [] rfl) hK hN rfl rfl hl.1 (Nat.le_of_ble_eq_true rfl) ⟨Nat.zero_le _, Nat.zero_le _⟩ dX4_addTitle_51 ?_
  have hp := hp.2
  refine lv_aload_n hx hb dX4_addTitle_54 rfl (lv_at hl 0 rfl) ?_
  refine va_get (D := (dC, dI)) (ci := 4) (v := .ref (qs 0)) (C := RX4) (T := TX4) (N := 3) hx hb hts inX4_addTitle_X4 hown hK hP 0 rfl rfl 1 (by decide) (hts _ knX4_addTitle_0) (fun _ h9 => h9) rfl dX4_addTitle_55 ?_
  refine va_getN (D := (dC, dI)) (ci := 3) (v := .int (gs 0 0)) (C := RX3) (T := TX3) (N := 11) (host := RX4) hx hb hts inX4_addTitle_X3 hown hK (t4s hP) 0 rfl rfl 0 (by decide) (nw_use hN 10 rfl) (fun _ h9 => h9) rfl dX4_addTitle_58 ?_
  refine lv_bipush (v := 8) hx hb dX4_addTitle_61 (by decide) ?_
  refine lv_icmp_ge (tgt := 70) hx hb dX4_addTitle_63 (by decide) (fun c1 => ?_) (fun c1 => ?_)
  · have hp := hp.1 c1
    refine lv_iconst (v := 0) hx hb dX4_addTitle_70 (by decide) ?_
    rw [eV71] at hp
    exact hp _ (lv_sub hl [0, 1, 2, 3, 4, 5, 6, 7] rfl)
  · have hp := hp.2 c1
    refine lv_iconst (v := 1) hx hb dX4_addTitle_66 (by decide) ?_
    refine lv_goto (tgt := 71) hx hb dX4_addTitle_67 (by decide) ?_
    rw [eV71] at hp
    exact hp _ (lv_sub hl [0, 1, 2, 3, 4, 5, 6, 7] rfl)
theorem knX4_addCopy_0 : (.fieldLink RX4 19 "Meeplehouse" "shelf" "LMeeplehouse$Shelf;" : Cond) ∈ wsX4_addCopy := by decide +kernel
theorem inX4_addCopy_X4 : ∀ w ∈ wsX40, w ∈ wsX4_addCopy := by decide +kernel
theorem inX4_addCopy_X3 : ∀ w ∈ wsX30, w ∈ wsX4_addCopy := by decide +kernel
def Pn_X4_addCopy (gh gs gr : St) (a1 : Int32) (ok : Int32 → St → St → St → Prop) : Prop := ((¬ a1 < 0 ∧ a1 < (gs 0 0)) ∧ (((16 : Int32) ≤ (gs 0 1) → ((¬ (0 : Int32) = 0) ∧ (∃ (r1 : Int32) (g2 : St), P_X3_putCopy gs a1 r1 g2 ∧ (ok r1 gh g2 gr)))) ∧ (¬ (16 : Int32) ≤ (gs 0 1) → ((¬ (1 : Int32) = 0) ∧ (∃ (r3 : Int32) (g4 : St), P_X3_putCopy gs a1 r3 g4 ∧ (ok r3 gh g4 gr))))))
set_option maxRecDepth 100000 in
set_option maxHeartbeats 4000000 in
theorem cn_X4_addCopy (l : Launch) (dC : Nat → ClassId) (dI : Nat → Nat → Nat) (cI : ClassId) (b0 : Nat) (qh qs qr : Nat → Nat) (gh gs gr : St) (a1 : Int32) (ok : Int32 → St → St → St → Prop) (hp : Pn_X4_addCopy gh gs gr a1 ok) (sz : Nat) : Met l yX4_addCopy wsX4_addCopy { frames := 7, cells := 0, slots := 0, locals := 103 } (va_Pc [.ref b0, .int a1] (wpS (dC, dI) vwCl [(cI, .int)] (wX4 b0 qh qs qr cI gh gs gr) sz)) (va_Qi (fun (r : Int32) (u : St × St × St) => ok r u.1 u.2.1 u.2.2) (fun u t => wqB (dC, dI) vwCl (wX4 b0 qh qs qr cI u.1 u.2.1 u.2.2) (va_A (wX4 b0 qh qs qr cI gh gs gr) sz) t) (va_A (wX4 b0 qh qs qr cI gh gs gr) sz)) 0 0 (va_A (wX4 b0 qh qs qr cI gh gs gr) sz) := by
  refine wr_met (fun A => (va_Qi (fun (r : Int32) (u : St × St × St) => ok r u.1 u.2.1 u.2.2) (fun u t => wqB (dC, dI) vwCl (wX4 b0 qh qs qr cI u.1 u.2.1 u.2.2) A t) A)) (cc := cX4_addCopy) (maxL := 2) (ret := (some .int)) (by decide) rfl (Nat.le_of_ble_eq_true rfl) ?_
  intro p e s m below meth c A hx hb hml hr hlk hts hown hnm hP hK hN hD hA ls hl
  have hS : va_S A s.heap s.heap [] := va_S.rf
  have hl : lv_has ls 2 [(0, .ref b0), (1, .int a1)] := hl
  unfold Pn_X4_addCopy at hp
  refine lv_iload_n hx hb dX4_addCopy_0 rfl (lv_at hl 1 rfl) ?_
  refine lv_aload_n hx hb dX4_addCopy_1 rfl (lv_at hl 0 rfl) ?_
  refine va_get (D := (dC, dI)) (ci := 4) (v := .ref (qs 0)) (C := RX4) (T := TX4) (N := 3) hx hb hts inX4_addCopy_X4 hown hK hP 0 rfl rfl 1 (by decide) (hts _ knX4_addCopy_0) (fun _ h9 => h9) rfl dX4_addCopy_2 ?_
  refine va_getN (D := (dC, dI)) (ci := 3) (v := .int (gs 0 0)) (C := RX3) (T := TX3) (N := 11) (host := RX4) hx hb hts inX4_addCopy_X3 hown hK (t4s hP) 0 rfl rfl 0 (by decide) (nw_use hN 10 rfl) (fun _ h9 => h9) rfl dX4_addCopy_5 ?_
  refine rv_S (As := [.int a1, .int (gs 0 0)]) (rest := []) ⟨hx, hb, hml, hown, hts⟩ (cn_X4_checkIndex l (wc := []) a1 (gs 0 0) hp.1) (va_cwS 2 hts gX4_addCopy_X4_checkIndex rfl rfl rfl (by decide +kernel) ⟨Nat.le_of_ble_eq_true rfl, Nat.le_of_ble_eq_true rfl⟩) (hP.sub [] rfl) hK hN rfl rfl hl.1 (Nat.le_of_ble_eq_true rfl) ⟨Nat.zero_le _, Nat.zero_le _⟩ dX4_addCopy_8 ?_
  have hp := hp.2
  refine lv_aload_n hx hb dX4_addCopy_11 rfl (lv_at hl 0 rfl) ?_
  refine va_get (D := (dC, dI)) (ci := 4) (v := .ref (qs 0)) (C := RX4) (T := TX4) (N := 3) hx hb hts inX4_addCopy_X4 hown hK hP 0 rfl rfl 1 (by decide) (hts _ knX4_addCopy_0) (fun _ h9 => h9) rfl dX4_addCopy_12 ?_
  refine va_getN (D := (dC, dI)) (ci := 3) (v := .int (gs 0 1)) (C := RX3) (T := TX3) (N := 11) (host := RX4) hx hb hts inX4_addCopy_X3 hown hK (t4s hP) 0 rfl rfl 1 (by decide) (nw_use hN 11 rfl) (fun _ h9 => h9) rfl dX4_addCopy_15 ?_
  refine lv_bipush (v := 16) hx hb dX4_addCopy_18 (by decide) ?_
  refine lv_icmp_ge (tgt := 27) hx hb dX4_addCopy_20 (by decide) (fun c5 => ?_) (fun c5 => ?_)
  · have hp := hp.1 c5
    refine lv_iconst (v := 0) hx hb dX4_addCopy_27 (by decide) ?_
    refine rv_S (As := [.int (0 : Int32)]) (rest := []) ⟨hx, hb, hml, hown, hts⟩ (cn_X4_checkState l (wc := []) (0 : Int32) hp.1) (va_cwS 1 hts gX4_addCopy_X4_checkState rfl rfl rfl (by decide +kernel) ⟨Nat.le_of_ble_eq_true rfl, Nat.le_of_ble_eq_true rfl⟩) (hP.sub [] rfl) hK hN rfl rfl hl.1 (Nat.le_of_ble_eq_true rfl) ⟨Nat.zero_le _, Nat.zero_le _⟩ dX4_addCopy_28 ?_
    have hp := hp.2
    refine lv_aload_n hx hb dX4_addCopy_31 rfl (lv_at hl 0 rfl) ?_
    refine va_get (D := (dC, dI)) (ci := 4) (v := .ref (qs 0)) (C := RX4) (T := TX4) (N := 3) hx hb hts inX4_addCopy_X4 hown hK hP 0 rfl rfl 1 (by decide) (hts _ knX4_addCopy_0) (fun _ h9 => h9) rfl dX4_addCopy_32 ?_
    refine lv_iload_n hx hb dX4_addCopy_35 rfl (lv_at hl 1 rfl) ?_
    obtain ⟨r1, g2, hg2, hp⟩ := hp
    refine wr_Vi (As := [.int a1]) (rest := []) (ws1 := wX4 b0 qh qs qr cI gh g2 gr) ⟨hx, hb, hml, hown, hts⟩ (c_X3_putCopy l dC dI cI qs gs a1 r1 g2 hg2 _) (cwV 1 hts gX4_addCopy_X3_putCopy rfl rfl rfl (by decide +kernel) ⟨Nat.le_of_ble_eq_true rfl, Nat.le_of_ble_eq_true rfl⟩) hP hD hS hA hK hN (w4s b0 qh qs qr cI gh gs gr) (w4s b0 qh qs qr cI gh g2 gr).symm rfl rfl rfl rfl hl.1 (Nat.le_of_ble_eq_true rfl) ⟨Nat.le_of_ble_eq_true rfl, Nat.le_of_ble_eq_true rfl⟩ dX4_addCopy_36 (fun H locs hP hD hS => ?_)
    exact W.iret hx hb hr (fun t ht _ => ⟨⟨_, (gh, g2, gr), rfl, hp, by rw [ht]; exact hP, hD⟩, hS.F ht⟩) hS.2.2 dX4_addCopy_39
  · have hp := hp.2 c5
    refine lv_iconst (v := 1) hx hb dX4_addCopy_23 (by decide) ?_
    refine lv_goto (tgt := 28) hx hb dX4_addCopy_24 (by decide) ?_
    refine rv_S (As := [.int (1 : Int32)]) (rest := []) ⟨hx, hb, hml, hown, hts⟩ (cn_X4_checkState l (wc := []) (1 : Int32) hp.1) (va_cwS 1 hts gX4_addCopy_X4_checkState rfl rfl rfl (by decide +kernel) ⟨Nat.le_of_ble_eq_true rfl, Nat.le_of_ble_eq_true rfl⟩) (hP.sub [] rfl) hK hN rfl rfl hl.1 (Nat.le_of_ble_eq_true rfl) ⟨Nat.zero_le _, Nat.zero_le _⟩ dX4_addCopy_28 ?_
    have hp := hp.2
    refine lv_aload_n hx hb dX4_addCopy_31 rfl (lv_at hl 0 rfl) ?_
    refine va_get (D := (dC, dI)) (ci := 4) (v := .ref (qs 0)) (C := RX4) (T := TX4) (N := 3) hx hb hts inX4_addCopy_X4 hown hK hP 0 rfl rfl 1 (by decide) (hts _ knX4_addCopy_0) (fun _ h9 => h9) rfl dX4_addCopy_32 ?_
    refine lv_iload_n hx hb dX4_addCopy_35 rfl (lv_at hl 1 rfl) ?_
    obtain ⟨r3, g4, hg4, hp⟩ := hp
    refine wr_Vi (As := [.int a1]) (rest := []) (ws1 := wX4 b0 qh qs qr cI gh g4 gr) ⟨hx, hb, hml, hown, hts⟩ (c_X3_putCopy l dC dI cI qs gs a1 r3 g4 hg4 _) (cwV 1 hts gX4_addCopy_X3_putCopy rfl rfl rfl (by decide +kernel) ⟨Nat.le_of_ble_eq_true rfl, Nat.le_of_ble_eq_true rfl⟩) hP hD hS hA hK hN (w4s b0 qh qs qr cI gh gs gr) (w4s b0 qh qs qr cI gh g4 gr).symm rfl rfl rfl rfl hl.1 (Nat.le_of_ble_eq_true rfl) ⟨Nat.le_of_ble_eq_true rfl, Nat.le_of_ble_eq_true rfl⟩ dX4_addCopy_36 (fun H locs hP hD hS => ?_)
    exact W.iret hx hb hr (fun t ht _ => ⟨⟨_, (gh, g4, gr), rfl, hp, by rw [ht]; exact hP, hD⟩, hS.F ht⟩) hS.2.2 dX4_addCopy_39
theorem knX4_addRule_0 : (.fieldLink RX4 19 "Meeplehouse" "shelf" "LMeeplehouse$Shelf;" : Cond) ∈ wsX4_addRule := by decide +kernel
theorem inX4_addRule_X4 : ∀ w ∈ wsX40, w ∈ wsX4_addRule := by decide +kernel
theorem inX4_addRule_X3 : ∀ w ∈ wsX30, w ∈ wsX4_addRule := by decide +kernel
theorem knX4_addRule_3 : (.fieldLink RX4 26 "Meeplehouse" "referee" "LMeeplehouse$Referee;" : Cond) ∈ wsX4_addRule := by decide +kernel
def Pn_X4_addRule (gh gs gr : St) (a1 : Int32) (a2 : Int32) (a3 : Int32) (a4 : Int32) (a5 : Int32) (ok : Int32 → St → St → St → Prop) : Prop := ∀ V28 : Prop, ∀ V69 : Int32 → Prop, (((¬ a3 < (0 : Int32) ∧ a3 ≤ (3 : Int32)) ∧ ((¬ a4 < (1 : Int32) ∧ a4 ≤ (300 : Int32)) ∧ ((¬ a5 < (0 : Int32) ∧ a5 ≤ (99 : Int32)) ∧ (∃ r3 : Int32, P_X1_rulesOf gr a1 r3 ∧ (((12 : Int32) ≤ r3 → (V69 (0 : Int32))) ∧ (¬ (12 : Int32) ≤ r3 → (V69 (1 : Int32)))))))) → V28) → (∀ t0 : Int32, ((¬ t0 = 0) ∧ (∃ (r5 : Int32) (g6 : St), P_X1_putRule gr a1 a2 a3 a4 a5 r5 g6 ∧ (ok r5 gh gs g6))) → V69 t0) → ((¬ a1 < 0 ∧ a1 < (gs 0 0)) ∧ ((a2 = (-1 : Int32) → (V28)) ∧ (¬ a2 = (-1 : Int32) → (∃ r1 : Int32, P_X1_rulesOf gr a1 r1 ∧ ((¬ a2 < 0 ∧ a2 < r1) ∧ (V28))))))
set_option maxRecDepth 100000 in
set_option maxHeartbeats 4000000 in
theorem cn_X4_addRule (l : Launch) (dC : Nat → ClassId) (dI : Nat → Nat → Nat) (cI : ClassId) (b0 : Nat) (qh qs qr : Nat → Nat) (gh gs gr : St) (a1 : Int32) (a2 : Int32) (a3 : Int32) (a4 : Int32) (a5 : Int32) (ok : Int32 → St → St → St → Prop) (hp : Pn_X4_addRule gh gs gr a1 a2 a3 a4 a5 ok) (sz : Nat) : Met l yX4_addRule wsX4_addRule { frames := 7, cells := 0, slots := 0, locals := 104 } (va_Pc [.ref b0, .int a1, .int a2, .int a3, .int a4, .int a5] (wpS (dC, dI) vwCl [(cI, .int)] (wX4 b0 qh qs qr cI gh gs gr) sz)) (va_Qi (fun (r : Int32) (u : St × St × St) => ok r u.1 u.2.1 u.2.2) (fun u t => wqB (dC, dI) vwCl (wX4 b0 qh qs qr cI u.1 u.2.1 u.2.2) (va_A (wX4 b0 qh qs qr cI gh gs gr) sz) t) (va_A (wX4 b0 qh qs qr cI gh gs gr) sz)) 0 0 (va_A (wX4 b0 qh qs qr cI gh gs gr) sz) := by
  refine wr_met (fun A => (va_Qi (fun (r : Int32) (u : St × St × St) => ok r u.1 u.2.1 u.2.2) (fun u t => wqB (dC, dI) vwCl (wX4 b0 qh qs qr cI u.1 u.2.1 u.2.2) A t) A)) (cc := cX4_addRule) (maxL := 6) (ret := (some .int)) (by decide) rfl (Nat.le_of_ble_eq_true rfl) ?_
  intro p e s m below meth c A hx hb hml hr hlk hts hown hnm hP hK hN hD hA ls hl
  have hS : va_S A s.heap s.heap [] := va_S.rf
  have hl : lv_has ls 6 [(0, .ref b0), (1, .int a1), (2, .int a2), (3, .int a3), (4, .int a4), (5, .int a5)] := hl
  obtain ⟨V28, eV28⟩ : ∃ V : Prop, V = (∀ ls : Array Slot, lv_has ls 6 [(0, .ref b0), (1, .int a1), (2, .int a2), (3, .int a3), (4, .int a4), (5, .int a5)] → W p l e { frames := 7, cells := 0, slots := 0, locals := 104 } s m ([.ref b0, .int a1, .int a2, .int a3, .int a4, .int a5] : List Value).toArray below meth c s.heap [] 0 0 (MQ below (va_Qi (fun (r : Int32) (u : St × St × St) => ok r u.1 u.2.1 u.2.2) (fun u t => wqB (dC, dI) vwCl (wX4 b0 qh qs qr cI u.1 u.2.1 u.2.2) A t) A) ([.ref b0, .int a1, .int a2, .int a3, .int a4, .int a5] : List Value).toArray s 0 0 A) (F0 m 28 ls [])) := ⟨_, rfl⟩
  obtain ⟨V69, eV69⟩ : ∃ V : Int32 → Prop, V = (fun t0 => ∀ ls : Array Slot, lv_has ls 6 [(0, .ref b0), (1, .int a1), (2, .int a2), (3, .int a3), (4, .int a4), (5, .int a5)] → W p l e { frames := 7, cells := 0, slots := 0, locals := 104 } s m ([.ref b0, .int a1, .int a2, .int a3, .int a4, .int a5] : List Value).toArray below meth c s.heap [] 0 0 (MQ below (va_Qi (fun (r : Int32) (u : St × St × St) => ok r u.1 u.2.1 u.2.2) (fun u t => wqB (dC, dI) vwCl (wX4 b0 qh qs qr cI u.1 u.2.1 u.2.2) A t) A) ([.ref b0, .int a1, .int a2, .int a3, .int a4, .int a5] : List Value).toArray s 0 0 A) (F0 m 69 ls [.int t0])) := ⟨_, rfl⟩
  have hp := hp V28 V69
  have hp := hp (by
    intro hp
    rw [eV28]
    intro ls hl
    refine lv_iload_n hx hb dX4_addRule_28 rfl (lv_at hl 3 rfl) ?_
    refine lv_iconst (v := 0) hx hb dX4_addRule_29 (by decide) ?_
    refine lv_iconst (v := 3) hx hb dX4_addRule_30 (by decide) ?_
    refine rv_S (As := [.int a3, .int (0 : Int32), .int (3 : Int32)]) (rest := []) ⟨hx, hb, hml, hown, hts⟩ (cn_X4_checkRange l (wc := []) a3 (0 : Int32) (3 : Int32) hp.1) (va_cwS 3 hts gX4_addRule_X4_checkRange rfl rfl rfl (by decide +kernel) ⟨Nat.le_of_ble_eq_true rfl, Nat.le_of_ble_eq_true rfl⟩) (hP.sub [] rfl) hK hN rfl rfl hl.1 (Nat.le_of_ble_eq_true rfl) ⟨Nat.zero_le _, Nat.zero_le _⟩ dX4_addRule_31 ?_
    have hp := hp.2
    refine lv_iload hx hb dX4_addRule_34 (lv_at hl 4 rfl) ?_
    refine lv_iconst (v := 1) hx hb dX4_addRule_36 (by decide) ?_
    refine lv_sipush (v := 300) hx hb dX4_addRule_37 (by decide) ?_
    refine rv_S (As := [.int a4, .int (1 : Int32), .int (300 : Int32)]) (rest := []) ⟨hx, hb, hml, hown, hts⟩ (cn_X4_checkRange l (wc := []) a4 (1 : Int32) (300 : Int32) hp.1) (va_cwS 3 hts gX4_addRule_X4_checkRange rfl rfl rfl (by decide +kernel) ⟨Nat.le_of_ble_eq_true rfl, Nat.le_of_ble_eq_true rfl⟩) (hP.sub [] rfl) hK hN rfl rfl hl.1 (Nat.le_of_ble_eq_true rfl) ⟨Nat.zero_le _, Nat.zero_le _⟩ dX4_addRule_40 ?_
    have hp := hp.2
    refine lv_iload hx hb dX4_addRule_43 (lv_at hl 5 rfl) ?_
    refine lv_iconst (v := 0) hx hb dX4_addRule_45 (by decide) ?_
    refine lv_bipush (v := 99) hx hb dX4_addRule_46 (by decide) ?_
    refine rv_S (As := [.int a5, .int (0 : Int32), .int (99 : Int32)]) (rest := []) ⟨hx, hb, hml, hown, hts⟩ (cn_X4_checkRange l (wc := []) a5 (0 : Int32) (99 : Int32) hp.1) (va_cwS 3 hts gX4_addRule_X4_checkRange rfl rfl rfl (by decide +kernel) ⟨Nat.le_of_ble_eq_true rfl, Nat.le_of_ble_eq_true rfl⟩) (hP.sub [] rfl) hK hN rfl rfl hl.1 (Nat.le_of_ble_eq_true rfl) ⟨Nat.zero_le _, Nat.zero_le _⟩ dX4_addRule_48 ?_
    have hp := hp.2
    refine lv_aload_n hx hb dX4_addRule_51 rfl (lv_at hl 0 rfl) ?_
    refine va_get (D := (dC, dI)) (ci := 4) (v := .ref (qr 0)) (C := RX4) (T := TX4) (N := 3) hx hb hts inX4_addRule_X4 hown hK hP 0 rfl rfl 2 (by decide) (hts _ knX4_addRule_3) (fun _ h9 => h9) rfl dX4_addRule_52 ?_
    refine lv_iload_n hx hb dX4_addRule_55 rfl (lv_at hl 1 rfl) ?_
    obtain ⟨r3, hr3, hp⟩ := hp
    refine ro_V (As := [.int a1]) (rest := []) ⟨hx, hb, hml, hown, hts⟩ (c_X1_rulesOf l dC dI cI qr gr a1 r3 hr3) (cwV 1 hts gX4_addRule_X1_rulesOf rfl rfl rfl (by decide +kernel) ⟨Nat.le_of_ble_eq_true rfl, Nat.le_of_ble_eq_true rfl⟩) (t4r hP) hK hN rfl rfl rfl rfl hl.1 (Nat.le_of_ble_eq_true rfl) ⟨Nat.le_of_ble_eq_true rfl, Nat.le_of_ble_eq_true rfl⟩ dX4_addRule_56 ?_
    refine lv_bipush (v := 12) hx hb dX4_addRule_59 (by decide) ?_
    refine lv_icmp_ge (tgt := 68) hx hb dX4_addRule_61 (by decide) (fun c4 => ?_) (fun c4 => ?_)
    · have hp := hp.1 c4
      refine lv_iconst (v := 0) hx hb dX4_addRule_68 (by decide) ?_
      rw [eV69] at hp
      exact hp _ (lv_sub hl [0, 1, 2, 3, 4, 5] rfl)
    · have hp := hp.2 c4
      refine lv_iconst (v := 1) hx hb dX4_addRule_64 (by decide) ?_
      refine lv_goto (tgt := 69) hx hb dX4_addRule_65 (by decide) ?_
      rw [eV69] at hp
      exact hp _ (lv_sub hl [0, 1, 2, 3, 4, 5] rfl))
  have hp := hp (by
    intro t0 hp
    rw [eV69]
    intro ls hl
    refine rv_S (As := [.int t0]) (rest := []) ⟨hx, hb, hml, hown, hts⟩ (cn_X4_checkState l (wc := []) t0 hp.1) (va_cwS 1 hts gX4_addRule_X4_checkState rfl rfl rfl (by decide +kernel) ⟨Nat.le_of_ble_eq_true rfl, Nat.le_of_ble_eq_true rfl⟩) (hP.sub [] rfl) hK hN rfl rfl hl.1 (Nat.le_of_ble_eq_true rfl) ⟨Nat.zero_le _, Nat.zero_le _⟩ dX4_addRule_69 ?_
    have hp := hp.2
    refine lv_aload_n hx hb dX4_addRule_72 rfl (lv_at hl 0 rfl) ?_
    refine va_get (D := (dC, dI)) (ci := 4) (v := .ref (qr 0)) (C := RX4) (T := TX4) (N := 3) hx hb hts inX4_addRule_X4 hown hK hP 0 rfl rfl 2 (by decide) (hts _ knX4_addRule_3) (fun _ h9 => h9) rfl dX4_addRule_73 ?_
    refine lv_iload_n hx hb dX4_addRule_76 rfl (lv_at hl 1 rfl) ?_
    refine lv_iload_n hx hb dX4_addRule_77 rfl (lv_at hl 2 rfl) ?_
    refine lv_iload_n hx hb dX4_addRule_78 rfl (lv_at hl 3 rfl) ?_
    refine lv_iload hx hb dX4_addRule_79 (lv_at hl 4 rfl) ?_
    refine lv_iload hx hb dX4_addRule_81 (lv_at hl 5 rfl) ?_
    obtain ⟨r5, g6, hg6, hp⟩ := hp
    refine wr_Vi (As := [.int a1, .int a2, .int a3, .int a4, .int a5]) (rest := []) (ws1 := wX4 b0 qh qs qr cI gh gs g6) ⟨hx, hb, hml, hown, hts⟩ (c_X1_putRule l dC dI cI qr gr a1 a2 a3 a4 a5 r5 g6 hg6 _) (cwV 5 hts gX4_addRule_X1_putRule rfl rfl rfl (by decide +kernel) ⟨Nat.le_of_ble_eq_true rfl, Nat.le_of_ble_eq_true rfl⟩) hP hD hS hA hK hN (w4r b0 qh qs qr cI gh gs gr) (w4r b0 qh qs qr cI gh gs g6).symm rfl rfl rfl rfl hl.1 (Nat.le_of_ble_eq_true rfl) ⟨Nat.le_of_ble_eq_true rfl, Nat.le_of_ble_eq_true rfl⟩ dX4_addRule_83 (fun H locs hP hD hS => ?_)
    exact W.iret hx hb hr (fun t ht _ => ⟨⟨_, (gh, gs, g6), rfl, hp, by rw [ht]; exact hP, hD⟩, hS.F ht⟩) hS.2.2 dX4_addRule_86)
  refine lv_iload_n hx hb dX4_addRule_0 rfl (lv_at hl 1 rfl) ?_
  refine lv_aload_n hx hb dX4_addRule_1 rfl (lv_at hl 0 rfl) ?_
  refine va_get (D := (dC, dI)) (ci := 4) (v := .ref (qs 0)) (C := RX4) (T := TX4) (N := 3) hx hb hts inX4_addRule_X4 hown hK hP 0 rfl rfl 1 (by decide) (hts _ knX4_addRule_0) (fun _ h9 => h9) rfl dX4_addRule_2 ?_
  refine va_getN (D := (dC, dI)) (ci := 3) (v := .int (gs 0 0)) (C := RX3) (T := TX3) (N := 11) (host := RX4) hx hb hts inX4_addRule_X3 hown hK (t4s hP) 0 rfl rfl 0 (by decide) (nw_use hN 10 rfl) (fun _ h9 => h9) rfl dX4_addRule_5 ?_
  refine rv_S (As := [.int a1, .int (gs 0 0)]) (rest := []) ⟨hx, hb, hml, hown, hts⟩ (cn_X4_checkIndex l (wc := []) a1 (gs 0 0) hp.1) (va_cwS 2 hts gX4_addRule_X4_checkIndex rfl rfl rfl (by decide +kernel) ⟨Nat.le_of_ble_eq_true rfl, Nat.le_of_ble_eq_true rfl⟩) (hP.sub [] rfl) hK hN rfl rfl hl.1 (Nat.le_of_ble_eq_true rfl) ⟨Nat.zero_le _, Nat.zero_le _⟩ dX4_addRule_8 ?_
  have hp := hp.2
  refine lv_iload_n hx hb dX4_addRule_11 rfl (lv_at hl 2 rfl) ?_
  refine lv_iconst (v := -1) hx hb dX4_addRule_12 (by decide) ?_
  refine lv_icmp_eq (tgt := 28) hx hb dX4_addRule_13 (by decide) (fun c2 => ?_) (fun c2 => ?_)
  · have hp := hp.1 c2
    rw [eV28] at hp
    exact hp _ (lv_sub hl [0, 1, 2, 3, 4, 5] rfl)
  · have hp := hp.2 c2
    refine lv_iload_n hx hb dX4_addRule_16 rfl (lv_at hl 2 rfl) ?_
    refine lv_aload_n hx hb dX4_addRule_17 rfl (lv_at hl 0 rfl) ?_
    refine va_get (D := (dC, dI)) (ci := 4) (v := .ref (qr 0)) (C := RX4) (T := TX4) (N := 3) hx hb hts inX4_addRule_X4 hown hK hP 0 rfl rfl 2 (by decide) (hts _ knX4_addRule_3) (fun _ h9 => h9) rfl dX4_addRule_18 ?_
    refine lv_iload_n hx hb dX4_addRule_21 rfl (lv_at hl 1 rfl) ?_
    obtain ⟨r1, hr1, hp⟩ := hp
    refine ro_V (As := [.int a1]) (rest := [.int a2]) ⟨hx, hb, hml, hown, hts⟩ (c_X1_rulesOf l dC dI cI qr gr a1 r1 hr1) (cwV 1 hts gX4_addRule_X1_rulesOf rfl rfl rfl (by decide +kernel) ⟨Nat.le_of_ble_eq_true rfl, Nat.le_of_ble_eq_true rfl⟩) (t4r hP) hK hN rfl rfl rfl rfl hl.1 (Nat.le_of_ble_eq_true rfl) ⟨Nat.le_of_ble_eq_true rfl, Nat.le_of_ble_eq_true rfl⟩ dX4_addRule_22 ?_
    refine rv_S (As := [.int a2, .int r1]) (rest := []) ⟨hx, hb, hml, hown, hts⟩ (cn_X4_checkIndex l (wc := []) a2 r1 hp.1) (va_cwS 2 hts gX4_addRule_X4_checkIndex rfl rfl rfl (by decide +kernel) ⟨Nat.le_of_ble_eq_true rfl, Nat.le_of_ble_eq_true rfl⟩) (hP.sub [] rfl) hK hN rfl rfl hl.1 (Nat.le_of_ble_eq_true rfl) ⟨Nat.zero_le _, Nat.zero_le _⟩ dX4_addRule_25 ?_
    have hp := hp.2
    rw [eV28] at hp
    exact hp _ (lv_sub hl [0, 1, 2, 3, 4, 5] rfl)
theorem knX4_tableOf_0 : (.fieldLink RX4 10 "Meeplehouse" "hall" "LMeeplehouse$Hall;" : Cond) ∈ wsX4_tableOf := by decide +kernel
theorem inX4_tableOf_X4 : ∀ w ∈ wsX40, w ∈ wsX4_tableOf := by decide +kernel
theorem inX4_tableOf_X0 : ∀ w ∈ wsX00, w ∈ wsX4_tableOf := by decide +kernel
def Pn_X4_tableOf (gh gs gr : St) (a1 : Int32) (r : Int32) : Prop := ((¬ a1 < 0 ∧ a1 < (gh 0 2)) ∧ (∃ r1 : Int32, P_X0_firstTable gh a1 r1 ∧ (r = r1)))
set_option maxRecDepth 100000 in
set_option maxHeartbeats 4000000 in
theorem cn_X4_tableOf (l : Launch) (dC : Nat → ClassId) (dI : Nat → Nat → Nat) (cI : ClassId) (b0 : Nat) (qh qs qr : Nat → Nat) (gh gs gr : St) (a1 : Int32) (r : Int32) (hp : Pn_X4_tableOf gh gs gr a1 r) : Met l yX4_tableOf wsX4_tableOf { frames := 7, cells := 0, slots := 0, locals := 103 } (va_Pc [.ref b0, .int a1] (rpS (dC, dI) vwCl [(cI, .int)] (wX4 b0 qh qs qr cI gh gs gr))) (QcRead r) 0 0 (fun _ => False) := by
  refine ro_met (cc := cX4_tableOf) (maxL := 2) (ret := (some .int)) (by decide) rfl (Nat.le_of_ble_eq_true rfl) ?_
  intro p e s m below meth c hx hb hml hr hlk hts hown hP hK hN ls hl
  have hl : lv_has ls 2 [(0, .ref b0), (1, .int a1)] := hl
  unfold Pn_X4_tableOf at hp
  refine lv_iload_n hx hb dX4_tableOf_0 rfl (lv_at hl 1 rfl) ?_
  refine lv_aload_n hx hb dX4_tableOf_1 rfl (lv_at hl 0 rfl) ?_
  refine va_get (D := (dC, dI)) (ci := 4) (v := .ref (qh 0)) (C := RX4) (T := TX4) (N := 3) hx hb hts inX4_tableOf_X4 hown hK hP 0 rfl rfl 0 (by decide) (hts _ knX4_tableOf_0) (fun _ h9 => h9) rfl dX4_tableOf_2 ?_
  refine va_getN (D := (dC, dI)) (ci := 0) (v := .int (gh 0 2)) (C := RX0) (T := TX0) (N := 9) (host := RX4) hx hb hts inX4_tableOf_X0 hown hK (t4h hP) 0 rfl rfl 2 (by decide) (nw_use hN 8 rfl) (fun _ h9 => h9) rfl dX4_tableOf_5 ?_
  refine rv_S (As := [.int a1, .int (gh 0 2)]) (rest := []) ⟨hx, hb, hml, hown, hts⟩ (cn_X4_checkIndex l (wc := []) a1 (gh 0 2) hp.1) (va_cwS 2 hts gX4_tableOf_X4_checkIndex rfl rfl rfl (by decide +kernel) ⟨Nat.le_of_ble_eq_true rfl, Nat.le_of_ble_eq_true rfl⟩) (hP.sub [] rfl) hK hN rfl rfl hl.1 (Nat.le_of_ble_eq_true rfl) ⟨Nat.zero_le _, Nat.zero_le _⟩ dX4_tableOf_8 ?_
  have hp := hp.2
  refine lv_aload_n hx hb dX4_tableOf_11 rfl (lv_at hl 0 rfl) ?_
  refine va_get (D := (dC, dI)) (ci := 4) (v := .ref (qh 0)) (C := RX4) (T := TX4) (N := 3) hx hb hts inX4_tableOf_X4 hown hK hP 0 rfl rfl 0 (by decide) (hts _ knX4_tableOf_0) (fun _ h9 => h9) rfl dX4_tableOf_12 ?_
  refine lv_iload_n hx hb dX4_tableOf_15 rfl (lv_at hl 1 rfl) ?_
  obtain ⟨r1, hr1, hp⟩ := hp
  refine ro_V (As := [.int a1]) (rest := []) ⟨hx, hb, hml, hown, hts⟩ (c_X0_firstTable l dC dI cI qh gh a1 r1 hr1) (cwV 1 hts gX4_tableOf_X0_firstTable rfl rfl rfl (by decide +kernel) ⟨Nat.le_of_ble_eq_true rfl, Nat.le_of_ble_eq_true rfl⟩) (t4h hP) hK hN rfl rfl rfl rfl hl.1 (Nat.le_of_ble_eq_true rfl) ⟨Nat.le_of_ble_eq_true rfl, Nat.le_of_ble_eq_true rfl⟩ dX4_tableOf_16 ?_
  exact W.iret hx hb hr (fun t ht _ => ⟨by rw [hp], ht⟩) (fun _ h => nomatch h) dX4_tableOf_19
theorem knX4_tablesOf_0 : (.fieldLink RX4 10 "Meeplehouse" "hall" "LMeeplehouse$Hall;" : Cond) ∈ wsX4_tablesOf := by decide +kernel
theorem inX4_tablesOf_X4 : ∀ w ∈ wsX40, w ∈ wsX4_tablesOf := by decide +kernel
theorem inX4_tablesOf_X0 : ∀ w ∈ wsX00, w ∈ wsX4_tablesOf := by decide +kernel
def Pn_X4_tablesOf (gh gs gr : St) (a1 : Int32) (r : Int32) : Prop := ((¬ a1 < 0 ∧ a1 < (gh 0 2)) ∧ (∃ r1 : Int32, P_X0_countTables gh a1 r1 ∧ (r = r1)))
set_option maxRecDepth 100000 in
set_option maxHeartbeats 4000000 in
theorem cn_X4_tablesOf (l : Launch) (dC : Nat → ClassId) (dI : Nat → Nat → Nat) (cI : ClassId) (b0 : Nat) (qh qs qr : Nat → Nat) (gh gs gr : St) (a1 : Int32) (r : Int32) (hp : Pn_X4_tablesOf gh gs gr a1 r) : Met l yX4_tablesOf wsX4_tablesOf { frames := 7, cells := 0, slots := 0, locals := 103 } (va_Pc [.ref b0, .int a1] (rpS (dC, dI) vwCl [(cI, .int)] (wX4 b0 qh qs qr cI gh gs gr))) (QcRead r) 0 0 (fun _ => False) := by
  refine ro_met (cc := cX4_tablesOf) (maxL := 2) (ret := (some .int)) (by decide) rfl (Nat.le_of_ble_eq_true rfl) ?_
  intro p e s m below meth c hx hb hml hr hlk hts hown hP hK hN ls hl
  have hl : lv_has ls 2 [(0, .ref b0), (1, .int a1)] := hl
  unfold Pn_X4_tablesOf at hp
  refine lv_iload_n hx hb dX4_tablesOf_0 rfl (lv_at hl 1 rfl) ?_
  refine lv_aload_n hx hb dX4_tablesOf_1 rfl (lv_at hl 0 rfl) ?_
  refine va_get (D := (dC, dI)) (ci := 4) (v := .ref (qh 0)) (C := RX4) (T := TX4) (N := 3) hx hb hts inX4_tablesOf_X4 hown hK hP 0 rfl rfl 0 (by decide) (hts _ knX4_tablesOf_0) (fun _ h9 => h9) rfl dX4_tablesOf_2 ?_
  refine va_getN (D := (dC, dI)) (ci := 0) (v := .int (gh 0 2)) (C := RX0) (T := TX0) (N := 9) (host := RX4) hx hb hts inX4_tablesOf_X0 hown hK (t4h hP) 0 rfl rfl 2 (by decide) (nw_use hN 8 rfl) (fun _ h9 => h9) rfl dX4_tablesOf_5 ?_
  refine rv_S (As := [.int a1, .int (gh 0 2)]) (rest := []) ⟨hx, hb, hml, hown, hts⟩ (cn_X4_checkIndex l (wc := []) a1 (gh 0 2) hp.1) (va_cwS 2 hts gX4_tablesOf_X4_checkIndex rfl rfl rfl (by decide +kernel) ⟨Nat.le_of_ble_eq_true rfl, Nat.le_of_ble_eq_true rfl⟩) (hP.sub [] rfl) hK hN rfl rfl hl.1 (Nat.le_of_ble_eq_true rfl) ⟨Nat.zero_le _, Nat.zero_le _⟩ dX4_tablesOf_8 ?_
  have hp := hp.2
  refine lv_aload_n hx hb dX4_tablesOf_11 rfl (lv_at hl 0 rfl) ?_
  refine va_get (D := (dC, dI)) (ci := 4) (v := .ref (qh 0)) (C := RX4) (T := TX4) (N := 3) hx hb hts inX4_tablesOf_X4 hown hK hP 0 rfl rfl 0 (by decide) (hts _ knX4_tablesOf_0) (fun _ h9 => h9) rfl dX4_tablesOf_12 ?_
  refine lv_iload_n hx hb dX4_tablesOf_15 rfl (lv_at hl 1 rfl) ?_
  obtain ⟨r1, hr1, hp⟩ := hp
  refine ro_V (As := [.int a1]) (rest := []) ⟨hx, hb, hml, hown, hts⟩ (c_X0_countTables l dC dI cI qh gh a1 r1 hr1) (cwV 1 hts gX4_tablesOf_X0_countTables rfl rfl rfl (by decide +kernel) ⟨Nat.le_of_ble_eq_true rfl, Nat.le_of_ble_eq_true rfl⟩) (t4h hP) hK hN rfl rfl rfl rfl hl.1 (Nat.le_of_ble_eq_true rfl) ⟨Nat.le_of_ble_eq_true rfl, Nat.le_of_ble_eq_true rfl⟩ dX4_tablesOf_16 ?_
  exact W.iret hx hb hr (fun t ht _ => ⟨by rw [hp], ht⟩) (fun _ h => nomatch h) dX4_tablesOf_19
theorem knX4_waste_0 : (.fieldLink RX4 10 "Meeplehouse" "hall" "LMeeplehouse$Hall;" : Cond) ∈ wsX4_waste := by decide +kernel
theorem inX4_waste_X4 : ∀ w ∈ wsX40, w ∈ wsX4_waste := by decide +kernel
def Pn_X4_waste (gh gs gr : St) (a1 : Int32) (r : Int32) : Prop := ((¬ a1 < (1 : Int32) ∧ a1 ≤ (12 : Int32)) ∧ (∃ r1 : Int32, P_X0_leastWaste gh a1 r1 ∧ (r = r1)))
set_option maxRecDepth 100000 in
set_option maxHeartbeats 4000000 in
theorem cn_X4_waste (l : Launch) (dC : Nat → ClassId) (dI : Nat → Nat → Nat) (cI : ClassId) (b0 : Nat) (qh qs qr : Nat → Nat) (gh gs gr : St) (a1 : Int32) (r : Int32) (hp : Pn_X4_waste gh gs gr a1 r) : Met l yX4_waste wsX4_waste { frames := 7, cells := 0, slots := 0, locals := 104 } (va_Pc [.ref b0, .int a1] (rpS (dC, dI) vwCl [(cI, .int)] (wX4 b0 qh qs qr cI gh gs gr))) (QcRead r) 0 0 (fun _ => False) := by
  refine ro_met (cc := cX4_waste) (maxL := 2) (ret := (some .int)) (by decide) rfl (Nat.le_of_ble_eq_true rfl) ?_
  intro p e s m below meth c hx hb hml hr hlk hts hown hP hK hN ls hl
  have hl : lv_has ls 2 [(0, .ref b0), (1, .int a1)] := hl
  unfold Pn_X4_waste at hp
  refine lv_iload_n hx hb dX4_waste_0 rfl (lv_at hl 1 rfl) ?_
  refine lv_iconst (v := 1) hx hb dX4_waste_1 (by decide) ?_
  refine lv_bipush (v := 12) hx hb dX4_waste_2 (by decide) ?_
  refine rv_S (As := [.int a1, .int (1 : Int32), .int (12 : Int32)]) (rest := []) ⟨hx, hb, hml, hown, hts⟩ (cn_X4_checkRange l (wc := []) a1 (1 : Int32) (12 : Int32) hp.1) (va_cwS 3 hts gX4_waste_X4_checkRange rfl rfl rfl (by decide +kernel) ⟨Nat.le_of_ble_eq_true rfl, Nat.le_of_ble_eq_true rfl⟩) (hP.sub [] rfl) hK hN rfl rfl hl.1 (Nat.le_of_ble_eq_true rfl) ⟨Nat.zero_le _, Nat.zero_le _⟩ dX4_waste_4 ?_
  have hp := hp.2
  refine lv_aload_n hx hb dX4_waste_7 rfl (lv_at hl 0 rfl) ?_
  refine va_get (D := (dC, dI)) (ci := 4) (v := .ref (qh 0)) (C := RX4) (T := TX4) (N := 3) hx hb hts inX4_waste_X4 hown hK hP 0 rfl rfl 0 (by decide) (hts _ knX4_waste_0) (fun _ h9 => h9) rfl dX4_waste_8 ?_
  refine lv_iload_n hx hb dX4_waste_11 rfl (lv_at hl 1 rfl) ?_
  obtain ⟨r1, hr1, hp⟩ := hp
  refine ro_V (As := [.int a1]) (rest := []) ⟨hx, hb, hml, hown, hts⟩ (c_X0_leastWaste l dC dI cI qh gh a1 r1 hr1) (cwV 1 hts gX4_waste_X0_leastWaste rfl rfl rfl (by decide +kernel) ⟨Nat.le_of_ble_eq_true rfl, Nat.le_of_ble_eq_true rfl⟩) (t4h hP) hK hN rfl rfl rfl rfl hl.1 (Nat.le_of_ble_eq_true rfl) ⟨Nat.le_of_ble_eq_true rfl, Nat.le_of_ble_eq_true rfl⟩ dX4_waste_12 ?_
  exact W.iret hx hb hr (fun t ht _ => ⟨by rw [hp], ht⟩) (fun _ h => nomatch h) dX4_waste_15
theorem knX4_wasteByAll_0 : (.fieldLink RX4 10 "Meeplehouse" "hall" "LMeeplehouse$Hall;" : Cond) ∈ wsX4_wasteByAll := by decide +kernel
theorem inX4_wasteByAll_X4 : ∀ w ∈ wsX40, w ∈ wsX4_wasteByAll := by decide +kernel
def Pn_X4_wasteByAll (gh gs gr : St) (a1 : Int32) (r : Int32) : Prop := ((¬ a1 < (1 : Int32) ∧ a1 ≤ (12 : Int32)) ∧ (∃ r1 : Int32, P_X0_leastWasteOfSets gh a1 r1 ∧ (r = r1)))
set_option maxRecDepth 100000 in
set_option maxHeartbeats 4000000 in
theorem cn_X4_wasteByAll (l : Launch) (dC : Nat → ClassId) (dI : Nat → Nat → Nat) (cI : ClassId) (b0 : Nat) (qh qs qr : Nat → Nat) (gh gs gr : St) (a1 : Int32) (r : Int32) (hp : Pn_X4_wasteByAll gh gs gr a1 r) : Met l yX4_wasteByAll wsX4_wasteByAll { frames := 7, cells := 0, slots := 0, locals := 104 } (va_Pc [.ref b0, .int a1] (rpS (dC, dI) vwCl [(cI, .int)] (wX4 b0 qh qs qr cI gh gs gr))) (QcRead r) 0 0 (fun _ => False) := by
  refine ro_met (cc := cX4_wasteByAll) (maxL := 2) (ret := (some .int)) (by decide) rfl (Nat.le_of_ble_eq_true rfl) ?_
  intro p e s m below meth c hx hb hml hr hlk hts hown hP hK hN ls hl
  have hl : lv_has ls 2 [(0, .ref b0), (1, .int a1)] := hl
  unfold Pn_X4_wasteByAll at hp
  refine lv_iload_n hx hb dX4_wasteByAll_0 rfl (lv_at hl 1 rfl) ?_
  refine lv_iconst (v := 1) hx hb dX4_wasteByAll_1 (by decide) ?_
  refine lv_bipush (v := 12) hx hb dX4_wasteByAll_2 (by decide) ?_
  refine rv_S (As := [.int a1, .int (1 : Int32), .int (12 : Int32)]) (rest := []) ⟨hx, hb, hml, hown, hts⟩ (cn_X4_checkRange l (wc := []) a1 (1 : Int32) (12 : Int32) hp.1) (va_cwS 3 hts gX4_wasteByAll_X4_checkRange rfl rfl rfl (by decide +kernel) ⟨Nat.le_of_ble_eq_true rfl, Nat.le_of_ble_eq_true rfl⟩) (hP.sub [] rfl) hK hN rfl rfl hl.1 (Nat.le_of_ble_eq_true rfl) ⟨Nat.zero_le _, Nat.zero_le _⟩ dX4_wasteByAll_4 ?_
  have hp := hp.2
  refine lv_aload_n hx hb dX4_wasteByAll_7 rfl (lv_at hl 0 rfl) ?_
  refine va_get (D := (dC, dI)) (ci := 4) (v := .ref (qh 0)) (C := RX4) (T := TX4) (N := 3) hx hb hts inX4_wasteByAll_X4 hown hK hP 0 rfl rfl 0 (by decide) (hts _ knX4_wasteByAll_0) (fun _ h9 => h9) rfl dX4_wasteByAll_8 ?_
  refine lv_iload_n hx hb dX4_wasteByAll_11 rfl (lv_at hl 1 rfl) ?_
  obtain ⟨r1, hr1, hp⟩ := hp
  refine ro_V (As := [.int a1]) (rest := []) ⟨hx, hb, hml, hown, hts⟩ (c_X0_leastWasteOfSets l dC dI cI qh gh a1 r1 hr1) (cwV 1 hts gX4_wasteByAll_X0_leastWasteOfSets rfl rfl rfl (by decide +kernel) ⟨Nat.le_of_ble_eq_true rfl, Nat.le_of_ble_eq_true rfl⟩) (t4h hP) hK hN rfl rfl rfl rfl hl.1 (Nat.le_of_ble_eq_true rfl) ⟨Nat.le_of_ble_eq_true rfl, Nat.le_of_ble_eq_true rfl⟩ dX4_wasteByAll_12 ?_
  exact W.iret hx hb hr (fun t ht _ => ⟨by rw [hp], ht⟩) (fun _ h => nomatch h) dX4_wasteByAll_15
theorem knX4_left_0 : (.fieldLink RX4 10 "Meeplehouse" "hall" "LMeeplehouse$Hall;" : Cond) ∈ wsX4_left := by decide +kernel
theorem inX4_left_X4 : ∀ w ∈ wsX40, w ∈ wsX4_left := by decide +kernel
theorem inX4_left_X0 : ∀ w ∈ wsX00, w ∈ wsX4_left := by decide +kernel
def Pn_X4_left (gh gs gr : St) (a1 : Int32) (r : Int32) : Prop := ((¬ a1 < 0 ∧ a1 < (gh 0 2)) ∧ (∃ r1 : Int32, P_X0_isSeated gh a1 r1 ∧ ((¬ r1 = 0) ∧ (∃ r2 : Int32, P_X0_minutesLeft gh a1 r2 ∧ (r = r2)))))
set_option maxRecDepth 100000 in
set_option maxHeartbeats 4000000 in
theorem cn_X4_left (l : Launch) (dC : Nat → ClassId) (dI : Nat → Nat → Nat) (cI : ClassId) (b0 : Nat) (qh qs qr : Nat → Nat) (gh gs gr : St) (a1 : Int32) (r : Int32) (hp : Pn_X4_left gh gs gr a1 r) : Met l yX4_left wsX4_left { frames := 7, cells := 0, slots := 0, locals := 103 } (va_Pc [.ref b0, .int a1] (rpS (dC, dI) vwCl [(cI, .int)] (wX4 b0 qh qs qr cI gh gs gr))) (QcRead r) 0 0 (fun _ => False) := by
  refine ro_met (cc := cX4_left) (maxL := 2) (ret := (some .int)) (by decide) rfl (Nat.le_of_ble_eq_true rfl) ?_
  intro p e s m below meth c hx hb hml hr hlk hts hown hP hK hN ls hl
  have hl : lv_has ls 2 [(0, .ref b0), (1, .int a1)] := hl
  unfold Pn_X4_left at hp
  refine lv_iload_n hx hb dX4_left_0 rfl (lv_at hl 1 rfl) ?_
  refine lv_aload_n hx hb dX4_left_1 rfl (lv_at hl 0 rfl) ?_
  refine va_get (D := (dC, dI)) (ci := 4) (v := .ref (qh 0)) (C := RX4) (T := TX4) (N := 3) hx hb hts inX4_left_X4 hown hK hP 0 rfl rfl 0 (by decide) (hts _ knX4_left_0) (fun _ h9 => h9) rfl dX4_left_2 ?_
  refine va_getN (D := (dC, dI)) (ci := 0) (v := .int (gh 0 2)) (C := RX0) (T := TX0) (N := 9) (host := RX4) hx hb hts inX4_left_X0 hown hK (t4h hP) 0 rfl rfl 2 (by decide) (nw_use hN 8 rfl) (fun _ h9 => h9) rfl dX4_left_5 ?_
  refine rv_S (As := [.int a1, .int (gh 0 2)]) (rest := []) ⟨hx, hb, hml, hown, hts⟩ (cn_X4_checkIndex l (wc := []) a1 (gh 0 2) hp.1) (va_cwS 2 hts gX4_left_X4_checkIndex rfl rfl rfl (by decide +kernel) ⟨Nat.le_of_ble_eq_true rfl, Nat.le_of_ble_eq_true rfl⟩) (hP.sub [] rfl) hK hN rfl rfl hl.1 (Nat.le_of_ble_eq_true rfl) ⟨Nat.zero_le _, Nat.zero_le _⟩ dX4_left_8 ?_
  have hp := hp.2
  refine lv_aload_n hx hb dX4_left_11 rfl (lv_at hl 0 rfl) ?_
  refine va_get (D := (dC, dI)) (ci := 4) (v := .ref (qh 0)) (C := RX4) (T := TX4) (N := 3) hx hb hts inX4_left_X4 hown hK hP 0 rfl rfl 0 (by decide) (hts _ knX4_left_0) (fun _ h9 => h9) rfl dX4_left_12 ?_
  refine lv_iload_n hx hb dX4_left_15 rfl (lv_at hl 1 rfl) ?_
  obtain ⟨r1, hr1, hp⟩ := hp
  refine ro_V (As := [.int a1]) (rest := []) ⟨hx, hb, hml, hown, hts⟩ (c_X0_isSeated l dC dI cI qh gh a1 r1 hr1) (cwV 1 hts gX4_left_X0_isSeated rfl rfl rfl (by decide +kernel) ⟨Nat.le_of_ble_eq_true rfl, Nat.le_of_ble_eq_true rfl⟩) (t4h hP) hK hN rfl rfl rfl rfl hl.1 (Nat.le_of_ble_eq_true rfl) ⟨Nat.le_of_ble_eq_true rfl, Nat.le_of_ble_eq_true rfl⟩ dX4_left_16 ?_
  refine rv_S (As := [.int r1]) (rest := []) ⟨hx, hb, hml, hown, hts⟩ (cn_X4_checkState l (wc := []) r1 hp.1) (va_cwS 1 hts gX4_left_X4_checkState rfl rfl rfl (by decide +kernel) ⟨Nat.le_of_ble_eq_true rfl, Nat.le_of_ble_eq_true rfl⟩) (hP.sub [] rfl) hK hN rfl rfl hl.1 (Nat.le_of_ble_eq_true rfl) ⟨Nat.zero_le _, Nat.zero_le _⟩ dX4_left_19 ?_
  have hp := hp.2
  refine lv_aload_n hx hb dX4_left_22 rfl (lv_at hl 0 rfl) ?_
  refine va_get (D := (dC, dI)) (ci := 4) (v := .ref (qh 0)) (C := RX4) (T := TX4) (N := 3) hx hb hts inX4_left_X4 hown hK hP 0 rfl rfl 0 (by decide) (hts _ knX4_left_0) (fun _ h9 => h9) rfl dX4_left_23 ?_
  refine lv_iload_n hx hb dX4_left_26 rfl (lv_at hl 1 rfl) ?_
  obtain ⟨r2, hr2, hp⟩ := hp
  refine ro_V (As := [.int a1]) (rest := []) ⟨hx, hb, hml, hown, hts⟩ (c_X0_minutesLeft l dC dI cI qh gh a1 r2 hr2) (cwV 1 hts gX4_left_X0_minutesLeft rfl rfl rfl (by decide +kernel) ⟨Nat.le_of_ble_eq_true rfl, Nat.le_of_ble_eq_true rfl⟩) (t4h hP) hK hN rfl rfl rfl rfl hl.1 (Nat.le_of_ble_eq_true rfl) ⟨Nat.le_of_ble_eq_true rfl, Nat.le_of_ble_eq_true rfl⟩ dX4_left_27 ?_
  exact W.iret hx hb hr (fun t ht _ => ⟨by rw [hp], ht⟩) (fun _ h => nomatch h) dX4_left_30
theorem knX4_offers_0 : (.fieldLink RX4 10 "Meeplehouse" "hall" "LMeeplehouse$Hall;" : Cond) ∈ wsX4_offers := by decide +kernel
theorem inX4_offers_X4 : ∀ w ∈ wsX40, w ∈ wsX4_offers := by decide +kernel
theorem inX4_offers_X0 : ∀ w ∈ wsX00, w ∈ wsX4_offers := by decide +kernel
def Pn_X4_offers (gh gs gr : St) (a1 : Int32) (r : Int32) : Prop := ((¬ a1 < 0 ∧ a1 < (gh 0 2)) ∧ (∃ r1 : Int32, P_X4_offeredTitles gh gs gr a1 r1 ∧ (∃ r2 : Int32, P_J6_bitCount_0f7a4 r1 r2 ∧ (r = r2))))
set_option maxRecDepth 100000 in
set_option maxHeartbeats 4000000 in
theorem cn_X4_offers (l : Launch) (dC : Nat → ClassId) (dI : Nat → Nat → Nat) (cI : ClassId) (b0 : Nat) (qh qs qr : Nat → Nat) (gh gs gr : St) (a1 : Int32) (r : Int32) (hp : Pn_X4_offers gh gs gr a1 r) : Met l yX4_offers wsX4_offers { frames := 7, cells := 0, slots := 0, locals := 138 } (va_Pc [.ref b0, .int a1] (rpS (dC, dI) vwCl [(cI, .int)] (wX4 b0 qh qs qr cI gh gs gr))) (QcRead r) 0 0 (fun _ => False) := by
  refine ro_met (cc := cX4_offers) (maxL := 2) (ret := (some .int)) (by decide) rfl (Nat.le_of_ble_eq_true rfl) ?_
  intro p e s m below meth c hx hb hml hr hlk hts hown hP hK hN ls hl
  have hl : lv_has ls 2 [(0, .ref b0), (1, .int a1)] := hl
  unfold Pn_X4_offers at hp
  refine lv_iload_n hx hb dX4_offers_0 rfl (lv_at hl 1 rfl) ?_
  refine lv_aload_n hx hb dX4_offers_1 rfl (lv_at hl 0 rfl) ?_
  refine va_get (D := (dC, dI)) (ci := 4) (v := .ref (qh 0)) (C := RX4) (T := TX4) (N := 3) hx hb hts inX4_offers_X4 hown hK hP 0 rfl rfl 0 (by decide) (hts _ knX4_offers_0) (fun _ h9 => h9) rfl dX4_offers_2 ?_
  refine va_getN (D := (dC, dI)) (ci := 0) (v := .int (gh 0 2)) (C := RX0) (T := TX0) (N := 9) (host := RX4) hx hb hts inX4_offers_X0 hown hK (t4h hP) 0 rfl rfl 2 (by decide) (nw_use hN 8 rfl) (fun _ h9 => h9) rfl dX4_offers_5 ?_
  refine rv_S (As := [.int a1, .int (gh 0 2)]) (rest := []) ⟨hx, hb, hml, hown, hts⟩ (cn_X4_checkIndex l (wc := []) a1 (gh 0 2) hp.1) (va_cwS 2 hts gX4_offers_X4_checkIndex rfl rfl rfl (by decide +kernel) ⟨Nat.le_of_ble_eq_true rfl, Nat.le_of_ble_eq_true rfl⟩) (hP.sub [] rfl) hK hN rfl rfl hl.1 (Nat.le_of_ble_eq_true rfl) ⟨Nat.zero_le _, Nat.zero_le _⟩ dX4_offers_8 ?_
  have hp := hp.2
  refine lv_aload_n hx hb dX4_offers_11 rfl (lv_at hl 0 rfl) ?_
  refine lv_iload_n hx hb dX4_offers_12 rfl (lv_at hl 1 rfl) ?_
  obtain ⟨r1, hr1, hp⟩ := hp
  refine ro_V (As := [.int a1]) (rest := []) ⟨hx, hb, hml, hown, hts⟩ (c_X4_offeredTitles l dC dI cI b0 qh qs qr gh gs gr a1 r1 hr1) (cwV 1 hts gX4_offers_X4_offeredTitles rfl rfl rfl (by decide +kernel) ⟨Nat.le_of_ble_eq_true rfl, Nat.le_of_ble_eq_true rfl⟩) hP hK hN rfl rfl rfl rfl hl.1 (Nat.le_of_ble_eq_true rfl) ⟨Nat.le_of_ble_eq_true rfl, Nat.le_of_ble_eq_true rfl⟩ dX4_offers_13 ?_
  obtain ⟨r2, hr2, hp⟩ := hp
  refine ro_S (As := [.int r1]) (rest := []) ⟨hx, hb, hml, hown, hts⟩ (c_J6_bitCount_0f7a4 l dC dI cI r1 r2 hr2) (va_cwS 1 hts gX4_offers_J6_bitCount_0f7a4 rfl rfl rfl (by decide +kernel) ⟨Nat.le_of_ble_eq_true rfl, Nat.le_of_ble_eq_true rfl⟩) (hP.sub [] rfl) hK hN rfl rfl hl.1 (Nat.le_of_ble_eq_true rfl) ⟨Nat.le_of_ble_eq_true rfl, Nat.le_of_ble_eq_true rfl⟩ dX4_offers_16 ?_
  exact W.iret hx hb hr (fun t ht _ => ⟨by rw [hp], ht⟩) (fun _ h => nomatch h) dX4_offers_19
theorem knX4_offerAt_0 : (.fieldLink RX4 10 "Meeplehouse" "hall" "LMeeplehouse$Hall;" : Cond) ∈ wsX4_offerAt := by decide +kernel
theorem inX4_offerAt_X4 : ∀ w ∈ wsX40, w ∈ wsX4_offerAt := by decide +kernel
theorem inX4_offerAt_X0 : ∀ w ∈ wsX00, w ∈ wsX4_offerAt := by decide +kernel
theorem knX4_offerAt_3 : (.fieldLink RX4 19 "Meeplehouse" "shelf" "LMeeplehouse$Shelf;" : Cond) ∈ wsX4_offerAt := by decide +kernel
def Pn_X4_offerAt (gh gs gr : St) (a1 : Int32) (a2 : Int32) (r : Int32) : Prop := ((¬ a1 < 0 ∧ a1 < (gh 0 2)) ∧ (∃ r1 : Int32, P_X4_offeredTitles gh gs gr a1 r1 ∧ (∃ r2 : Int32, P_J6_bitCount_0f7a4 r1 r2 ∧ ((¬ a2 < 0 ∧ a2 < r2) ∧ (∃ r3 : Int32, P_X3_titleInPlace gs r1 a2 r3 ∧ (r = r3))))))
set_option maxRecDepth 100000 in
set_option maxHeartbeats 4000000 in
theorem cn_X4_offerAt (l : Launch) (dC : Nat → ClassId) (dI : Nat → Nat → Nat) (cI : ClassId) (b0 : Nat) (qh qs qr : Nat → Nat) (gh gs gr : St) (a1 : Int32) (a2 : Int32) (r : Int32) (hp : Pn_X4_offerAt gh gs gr a1 a2 r) : Met l yX4_offerAt wsX4_offerAt { frames := 7, cells := 0, slots := 0, locals := 138 } (va_Pc [.ref b0, .int a1, .int a2] (rpS (dC, dI) vwCl [(cI, .int)] (wX4 b0 qh qs qr cI gh gs gr))) (QcRead r) 0 0 (fun _ => False) := by
  refine ro_met (cc := cX4_offerAt) (maxL := 4) (ret := (some .int)) (by decide) rfl (Nat.le_of_ble_eq_true rfl) ?_
  intro p e s m below meth c hx hb hml hr hlk hts hown hP hK hN ls hl
  have hl : lv_has ls 4 [(0, .ref b0), (1, .int a1), (2, .int a2)] := hl
  unfold Pn_X4_offerAt at hp
  refine lv_iload_n hx hb dX4_offerAt_0 rfl (lv_at hl 1 rfl) ?_
  refine lv_aload_n hx hb dX4_offerAt_1 rfl (lv_at hl 0 rfl) ?_
  refine va_get (D := (dC, dI)) (ci := 4) (v := .ref (qh 0)) (C := RX4) (T := TX4) (N := 3) hx hb hts inX4_offerAt_X4 hown hK hP 0 rfl rfl 0 (by decide) (hts _ knX4_offerAt_0) (fun _ h9 => h9) rfl dX4_offerAt_2 ?_
  refine va_getN (D := (dC, dI)) (ci := 0) (v := .int (gh 0 2)) (C := RX0) (T := TX0) (N := 9) (host := RX4) hx hb hts inX4_offerAt_X0 hown hK (t4h hP) 0 rfl rfl 2 (by decide) (nw_use hN 8 rfl) (fun _ h9 => h9) rfl dX4_offerAt_5 ?_
  refine rv_S (As := [.int a1, .int (gh 0 2)]) (rest := []) ⟨hx, hb, hml, hown, hts⟩ (cn_X4_checkIndex l (wc := []) a1 (gh 0 2) hp.1) (va_cwS 2 hts gX4_offerAt_X4_checkIndex rfl rfl rfl (by decide +kernel) ⟨Nat.le_of_ble_eq_true rfl, Nat.le_of_ble_eq_true rfl⟩) (hP.sub [] rfl) hK hN rfl rfl hl.1 (Nat.le_of_ble_eq_true rfl) ⟨Nat.zero_le _, Nat.zero_le _⟩ dX4_offerAt_8 ?_
  have hp := hp.2
  refine lv_aload_n hx hb dX4_offerAt_11 rfl (lv_at hl 0 rfl) ?_
  refine lv_iload_n hx hb dX4_offerAt_12 rfl (lv_at hl 1 rfl) ?_
  obtain ⟨r1, hr1, hp⟩ := hp
  refine ro_V (As := [.int a1]) (rest := []) ⟨hx, hb, hml, hown, hts⟩ (c_X4_offeredTitles l dC dI cI b0 qh qs qr gh gs gr a1 r1 hr1) (cwV 1 hts gX4_offerAt_X4_offeredTitles rfl rfl rfl (by decide +kernel) ⟨Nat.le_of_ble_eq_true rfl, Nat.le_of_ble_eq_true rfl⟩) hP hK hN rfl rfl rfl rfl hl.1 (Nat.le_of_ble_eq_true rfl) ⟨Nat.le_of_ble_eq_true rfl, Nat.le_of_ble_eq_true rfl⟩ dX4_offerAt_13 ?_
  refine lv_istore_n (lv' := [(3, .int r1), (0, .ref b0), (1, .int a1), (2, .int a2)]) hx hb dX4_offerAt_16 rfl hl (by decide) rfl (fun ls hl => ?_)
  refine lv_iload_n hx hb dX4_offerAt_17 rfl (lv_at hl 3 rfl) ?_
  refine lv_iload_n hx hb dX4_offerAt_18 rfl (lv_at hl 0 rfl) ?_
  obtain ⟨r2, hr2, hp⟩ := hp
  refine ro_S (As := [.int r1]) (rest := [.int a2]) ⟨hx, hb, hml, hown, hts⟩ (c_J6_bitCount_0f7a4 l dC dI cI r1 r2 hr2) (va_cwS 1 hts gX4_offerAt_J6_bitCount_0f7a4 rfl rfl rfl (by decide +kernel) ⟨Nat.le_of_ble_eq_true rfl, Nat.le_of_ble_eq_true rfl⟩) (hP.sub [] rfl) hK hN rfl rfl hl.1 (Nat.le_of_ble_eq_true rfl) ⟨Nat.le_of_ble_eq_true rfl, Nat.le_of_ble_eq_true rfl⟩ dX4_offerAt_19 ?_
  refine rv_S (As := [.int a2, .int r2]) (rest := []) ⟨hx, hb, hml, hown, hts⟩ (cn_X4_checkIndex l (wc := []) a2 r2 hp.1) (va_cwS 2 hts gX4_offerAt_X4_checkIndex rfl rfl rfl (by decide +kernel) ⟨Nat.le_of_ble_eq_true rfl, Nat.le_of_ble_eq_true rfl⟩) (hP.sub [] rfl) hK hN rfl rfl hl.1 (Nat.le_of_ble_eq_true rfl) ⟨Nat.zero_le _, Nat.zero_le _⟩ dX4_offerAt_22 ?_
  have hp := hp.2
  refine lv_aload_n hx hb dX4_offerAt_25 rfl (lv_at hl 1 rfl) ?_
  refine va_get (D := (dC, dI)) (ci := 4) (v := .ref (qs 0)) (C := RX4) (T := TX4) (N := 3) hx hb hts inX4_offerAt_X4 hown hK hP 0 rfl rfl 1 (by decide) (hts _ knX4_offerAt_3) (fun _ h9 => h9) rfl dX4_offerAt_26 ?_
  refine lv_iload_n hx hb dX4_offerAt_29 rfl (lv_at hl 0 rfl) ?_
  refine lv_iload_n hx hb dX4_offerAt_30 rfl (lv_at hl 3 rfl) ?_
  obtain ⟨r3, hr3, hp⟩ := hp
  refine ro_V (As := [.int r1, .int a2]) (rest := []) ⟨hx, hb, hml, hown, hts⟩ (c_X3_titleInPlace l dC dI cI qs gs r1 a2 r3 hr3) (cwV 2 hts gX4_offerAt_X3_titleInPlace rfl rfl rfl (by decide +kernel) ⟨Nat.le_of_ble_eq_true rfl, Nat.le_of_ble_eq_true rfl⟩) (t4s hP) hK hN rfl rfl rfl rfl hl.1 (Nat.le_of_ble_eq_true rfl) ⟨Nat.le_of_ble_eq_true rfl, Nat.le_of_ble_eq_true rfl⟩ dX4_offerAt_31 ?_
  exact W.iret hx hb hr (fun t ht _ => ⟨by rw [hp], ht⟩) (fun _ h => nomatch h) dX4_offerAt_34
theorem knX4_pieces_0 : (.fieldLink RX4 19 "Meeplehouse" "shelf" "LMeeplehouse$Shelf;" : Cond) ∈ wsX4_pieces := by decide +kernel
theorem inX4_pieces_X4 : ∀ w ∈ wsX40, w ∈ wsX4_pieces := by decide +kernel
theorem inX4_pieces_X3 : ∀ w ∈ wsX30, w ∈ wsX4_pieces := by decide +kernel
def Pn_X4_pieces (gh gs gr : St) (a1 : Int32) (a2 : Int32) (r : Int32) : Prop := ((¬ a1 < 0 ∧ a1 < (gs 0 1)) ∧ ((¬ a2 < 0 ∧ a2 < (4 : Int32)) ∧ (∃ r1 : Int32, P_X3_count gs a1 a2 r1 ∧ (r = r1))))
set_option maxRecDepth 100000 in
set_option maxHeartbeats 4000000 in
theorem cn_X4_pieces (l : Launch) (dC : Nat → ClassId) (dI : Nat → Nat → Nat) (cI : ClassId) (b0 : Nat) (qh qs qr : Nat → Nat) (gh gs gr : St) (a1 : Int32) (a2 : Int32) (r : Int32) (hp : Pn_X4_pieces gh gs gr a1 a2 r) : Met l yX4_pieces wsX4_pieces { frames := 7, cells := 0, slots := 0, locals := 103 } (va_Pc [.ref b0, .int a1, .int a2] (rpS (dC, dI) vwCl [(cI, .int)] (wX4 b0 qh qs qr cI gh gs gr))) (QcRead r) 0 0 (fun _ => False) := by
  refine ro_met (cc := cX4_pieces) (maxL := 3) (ret := (some .int)) (by decide) rfl (Nat.le_of_ble_eq_true rfl) ?_
  intro p e s m below meth c hx hb hml hr hlk hts hown hP hK hN ls hl
  have hl : lv_has ls 3 [(0, .ref b0), (1, .int a1), (2, .int a2)] := hl
  unfold Pn_X4_pieces at hp
  refine lv_iload_n hx hb dX4_pieces_0 rfl (lv_at hl 1 rfl) ?_
  refine lv_aload_n hx hb dX4_pieces_1 rfl (lv_at hl 0 rfl) ?_
  refine va_get (D := (dC, dI)) (ci := 4) (v := .ref (qs 0)) (C := RX4) (T := TX4) (N := 3) hx hb hts inX4_pieces_X4 hown hK hP 0 rfl rfl 1 (by decide) (hts _ knX4_pieces_0) (fun _ h9 => h9) rfl dX4_pieces_2 ?_
  refine va_getN (D := (dC, dI)) (ci := 3) (v := .int (gs 0 1)) (C := RX3) (T := TX3) (N := 11) (host := RX4) hx hb hts inX4_pieces_X3 hown hK (t4s hP) 0 rfl rfl 1 (by decide) (nw_use hN 11 rfl) (fun _ h9 => h9) rfl dX4_pieces_5 ?_
  refine rv_S (As := [.int a1, .int (gs 0 1)]) (rest := []) ⟨hx, hb, hml, hown, hts⟩ (cn_X4_checkIndex l (wc := []) a1 (gs 0 1) hp.1) (va_cwS 2 hts gX4_pieces_X4_checkIndex rfl rfl rfl (by decide +kernel) ⟨Nat.le_of_ble_eq_true rfl, Nat.le_of_ble_eq_true rfl⟩) (hP.sub [] rfl) hK hN rfl rfl hl.1 (Nat.le_of_ble_eq_true rfl) ⟨Nat.zero_le _, Nat.zero_le _⟩ dX4_pieces_8 ?_
  have hp := hp.2
  refine lv_iload_n hx hb dX4_pieces_11 rfl (lv_at hl 2 rfl) ?_
  refine lv_iconst (v := 4) hx hb dX4_pieces_12 (by decide) ?_
  refine rv_S (As := [.int a2, .int (4 : Int32)]) (rest := []) ⟨hx, hb, hml, hown, hts⟩ (cn_X4_checkIndex l (wc := []) a2 (4 : Int32) hp.1) (va_cwS 2 hts gX4_pieces_X4_checkIndex rfl rfl rfl (by decide +kernel) ⟨Nat.le_of_ble_eq_true rfl, Nat.le_of_ble_eq_true rfl⟩) (hP.sub [] rfl) hK hN rfl rfl hl.1 (Nat.le_of_ble_eq_true rfl) ⟨Nat.zero_le _, Nat.zero_le _⟩ dX4_pieces_13 ?_
  have hp := hp.2
  refine lv_aload_n hx hb dX4_pieces_16 rfl (lv_at hl 0 rfl) ?_
  refine va_get (D := (dC, dI)) (ci := 4) (v := .ref (qs 0)) (C := RX4) (T := TX4) (N := 3) hx hb hts inX4_pieces_X4 hown hK hP 0 rfl rfl 1 (by decide) (hts _ knX4_pieces_0) (fun _ h9 => h9) rfl dX4_pieces_17 ?_
  refine lv_iload_n hx hb dX4_pieces_20 rfl (lv_at hl 1 rfl) ?_
  refine lv_iload_n hx hb dX4_pieces_21 rfl (lv_at hl 2 rfl) ?_
  obtain ⟨r1, hr1, hp⟩ := hp
  refine ro_V (As := [.int a1, .int a2]) (rest := []) ⟨hx, hb, hml, hown, hts⟩ (c_X3_count l dC dI cI qs gs a1 a2 r1 hr1) (cwV 2 hts gX4_pieces_X3_count rfl rfl rfl (by decide +kernel) ⟨Nat.le_of_ble_eq_true rfl, Nat.le_of_ble_eq_true rfl⟩) (t4s hP) hK hN rfl rfl rfl rfl hl.1 (Nat.le_of_ble_eq_true rfl) ⟨Nat.le_of_ble_eq_true rfl, Nat.le_of_ble_eq_true rfl⟩ dX4_pieces_22 ?_
  exact W.iret hx hb hr (fun t ht _ => ⟨by rw [hp], ht⟩) (fun _ h => nomatch h) dX4_pieces_25
theorem knX4_stateOf_0 : (.fieldLink RX4 19 "Meeplehouse" "shelf" "LMeeplehouse$Shelf;" : Cond) ∈ wsX4_stateOf := by decide +kernel
theorem inX4_stateOf_X4 : ∀ w ∈ wsX40, w ∈ wsX4_stateOf := by decide +kernel
theorem inX4_stateOf_X3 : ∀ w ∈ wsX30, w ∈ wsX4_stateOf := by decide +kernel
def Pn_X4_stateOf (gh gs gr : St) (a1 : Int32) (r : Int32) : Prop := ((¬ a1 < 0 ∧ a1 < (gs 0 1)) ∧ (∃ r1 : Int32, P_X3_place gs a1 r1 ∧ (r = r1)))
set_option maxRecDepth 100000 in
set_option maxHeartbeats 4000000 in
theorem cn_X4_stateOf (l : Launch) (dC : Nat → ClassId) (dI : Nat → Nat → Nat) (cI : ClassId) (b0 : Nat) (qh qs qr : Nat → Nat) (gh gs gr : St) (a1 : Int32) (r : Int32) (hp : Pn_X4_stateOf gh gs gr a1 r) : Met l yX4_stateOf wsX4_stateOf { frames := 7, cells := 0, slots := 0, locals := 103 } (va_Pc [.ref b0, .int a1] (rpS (dC, dI) vwCl [(cI, .int)] (wX4 b0 qh qs qr cI gh gs gr))) (QcRead r) 0 0 (fun _ => False) := by
  refine ro_met (cc := cX4_stateOf) (maxL := 2) (ret := (some .int)) (by decide) rfl (Nat.le_of_ble_eq_true rfl) ?_
  intro p e s m below meth c hx hb hml hr hlk hts hown hP hK hN ls hl
  have hl : lv_has ls 2 [(0, .ref b0), (1, .int a1)] := hl
  unfold Pn_X4_stateOf at hp
  refine lv_iload_n hx hb dX4_stateOf_0 rfl (lv_at hl 1 rfl) ?_
  refine lv_aload_n hx hb dX4_stateOf_1 rfl (lv_at hl 0 rfl) ?_
  refine va_get (D := (dC, dI)) (ci := 4) (v := .ref (qs 0)) (C := RX4) (T := TX4) (N := 3) hx hb hts inX4_stateOf_X4 hown hK hP 0 rfl rfl 1 (by decide) (hts _ knX4_stateOf_0) (fun _ h9 => h9) rfl dX4_stateOf_2 ?_
  refine va_getN (D := (dC, dI)) (ci := 3) (v := .int (gs 0 1)) (C := RX3) (T := TX3) (N := 11) (host := RX4) hx hb hts inX4_stateOf_X3 hown hK (t4s hP) 0 rfl rfl 1 (by decide) (nw_use hN 11 rfl) (fun _ h9 => h9) rfl dX4_stateOf_5 ?_
  refine rv_S (As := [.int a1, .int (gs 0 1)]) (rest := []) ⟨hx, hb, hml, hown, hts⟩ (cn_X4_checkIndex l (wc := []) a1 (gs 0 1) hp.1) (va_cwS 2 hts gX4_stateOf_X4_checkIndex rfl rfl rfl (by decide +kernel) ⟨Nat.le_of_ble_eq_true rfl, Nat.le_of_ble_eq_true rfl⟩) (hP.sub [] rfl) hK hN rfl rfl hl.1 (Nat.le_of_ble_eq_true rfl) ⟨Nat.zero_le _, Nat.zero_le _⟩ dX4_stateOf_8 ?_
  have hp := hp.2
  refine lv_aload_n hx hb dX4_stateOf_11 rfl (lv_at hl 0 rfl) ?_
  refine va_get (D := (dC, dI)) (ci := 4) (v := .ref (qs 0)) (C := RX4) (T := TX4) (N := 3) hx hb hts inX4_stateOf_X4 hown hK hP 0 rfl rfl 1 (by decide) (hts _ knX4_stateOf_0) (fun _ h9 => h9) rfl dX4_stateOf_12 ?_
  refine lv_iload_n hx hb dX4_stateOf_15 rfl (lv_at hl 1 rfl) ?_
  obtain ⟨r1, hr1, hp⟩ := hp
  refine ro_V (As := [.int a1]) (rest := []) ⟨hx, hb, hml, hown, hts⟩ (c_X3_place l dC dI cI qs gs a1 r1 hr1) (cwV 1 hts gX4_stateOf_X3_place rfl rfl rfl (by decide +kernel) ⟨Nat.le_of_ble_eq_true rfl, Nat.le_of_ble_eq_true rfl⟩) (t4s hP) hK hN rfl rfl rfl rfl hl.1 (Nat.le_of_ble_eq_true rfl) ⟨Nat.le_of_ble_eq_true rfl, Nat.le_of_ble_eq_true rfl⟩ dX4_stateOf_16 ?_
  exact W.iret hx hb hr (fun t ht _ => ⟨by rw [hp], ht⟩) (fun _ h => nomatch h) dX4_stateOf_19
theorem knX4_lenders_0 : (.fieldLink RX4 19 "Meeplehouse" "shelf" "LMeeplehouse$Shelf;" : Cond) ∈ wsX4_lenders := by decide +kernel
theorem inX4_lenders_X4 : ∀ w ∈ wsX40, w ∈ wsX4_lenders := by decide +kernel
theorem inX4_lenders_X3 : ∀ w ∈ wsX30, w ∈ wsX4_lenders := by decide +kernel
def Pn_X4_lenders (gh gs gr : St) (a1 : Int32) (r : Int32) : Prop := ((¬ a1 < 0 ∧ a1 < (gs 0 1)) ∧ (∃ r1 : Int32, P_X3_countLenders gs a1 r1 ∧ (r = r1)))
set_option maxRecDepth 100000 in
set_option maxHeartbeats 4000000 in
theorem cn_X4_lenders (l : Launch) (dC : Nat → ClassId) (dI : Nat → Nat → Nat) (cI : ClassId) (b0 : Nat) (qh qs qr : Nat → Nat) (gh gs gr : St) (a1 : Int32) (r : Int32) (hp : Pn_X4_lenders gh gs gr a1 r) : Met l yX4_lenders wsX4_lenders { frames := 7, cells := 0, slots := 0, locals := 103 } (va_Pc [.ref b0, .int a1] (rpS (dC, dI) vwCl [(cI, .int)] (wX4 b0 qh qs qr cI gh gs gr))) (QcRead r) 0 0 (fun _ => False) := by
  refine ro_met (cc := cX4_lenders) (maxL := 2) (ret := (some .int)) (by decide) rfl (Nat.le_of_ble_eq_true rfl) ?_
  intro p e s m below meth c hx hb hml hr hlk hts hown hP hK hN ls hl
  have hl : lv_has ls 2 [(0, .ref b0), (1, .int a1)] := hl
  unfold Pn_X4_lenders at hp
  refine lv_iload_n hx hb dX4_lenders_0 rfl (lv_at hl 1 rfl) ?_
  refine lv_aload_n hx hb dX4_lenders_1 rfl (lv_at hl 0 rfl) ?_
  refine va_get (D := (dC, dI)) (ci := 4) (v := .ref (qs 0)) (C := RX4) (T := TX4) (N := 3) hx hb hts inX4_lenders_X4 hown hK hP 0 rfl rfl 1 (by decide) (hts _ knX4_lenders_0) (fun _ h9 => h9) rfl dX4_lenders_2 ?_
  refine va_getN (D := (dC, dI)) (ci := 3) (v := .int (gs 0 1)) (C := RX3) (T := TX3) (N := 11) (host := RX4) hx hb hts inX4_lenders_X3 hown hK (t4s hP) 0 rfl rfl 1 (by decide) (nw_use hN 11 rfl) (fun _ h9 => h9) rfl dX4_lenders_5 ?_
  refine rv_S (As := [.int a1, .int (gs 0 1)]) (rest := []) ⟨hx, hb, hml, hown, hts⟩ (cn_X4_checkIndex l (wc := []) a1 (gs 0 1) hp.1) (va_cwS 2 hts gX4_lenders_X4_checkIndex rfl rfl rfl (by decide +kernel) ⟨Nat.le_of_ble_eq_true rfl, Nat.le_of_ble_eq_true rfl⟩) (hP.sub [] rfl) hK hN rfl rfl hl.1 (Nat.le_of_ble_eq_true rfl) ⟨Nat.zero_le _, Nat.zero_le _⟩ dX4_lenders_8 ?_
  have hp := hp.2
  refine lv_aload_n hx hb dX4_lenders_11 rfl (lv_at hl 0 rfl) ?_
  refine va_get (D := (dC, dI)) (ci := 4) (v := .ref (qs 0)) (C := RX4) (T := TX4) (N := 3) hx hb hts inX4_lenders_X4 hown hK hP 0 rfl rfl 1 (by decide) (hts _ knX4_lenders_0) (fun _ h9 => h9) rfl dX4_lenders_12 ?_
  refine lv_iload_n hx hb dX4_lenders_15 rfl (lv_at hl 1 rfl) ?_
  obtain ⟨r1, hr1, hp⟩ := hp
  refine ro_V (As := [.int a1]) (rest := []) ⟨hx, hb, hml, hown, hts⟩ (c_X3_countLenders l dC dI cI qs gs a1 r1 hr1) (cwV 1 hts gX4_lenders_X3_countLenders rfl rfl rfl (by decide +kernel) ⟨Nat.le_of_ble_eq_true rfl, Nat.le_of_ble_eq_true rfl⟩) (t4s hP) hK hN rfl rfl rfl rfl hl.1 (Nat.le_of_ble_eq_true rfl) ⟨Nat.le_of_ble_eq_true rfl, Nat.le_of_ble_eq_true rfl⟩ dX4_lenders_16 ?_
  exact W.iret hx hb hr (fun t ht _ => ⟨by rw [hp], ht⟩) (fun _ h => nomatch h) dX4_lenders_19
theorem knX4_copyOf_0 : (.fieldLink RX4 10 "Meeplehouse" "hall" "LMeeplehouse$Hall;" : Cond) ∈ wsX4_copyOf := by decide +kernel
theorem inX4_copyOf_X4 : ∀ w ∈ wsX40, w ∈ wsX4_copyOf := by decide +kernel
theorem inX4_copyOf_X0 : ∀ w ∈ wsX00, w ∈ wsX4_copyOf := by decide +kernel
theorem knX4_copyOf_3 : (.fieldLink RX4 19 "Meeplehouse" "shelf" "LMeeplehouse$Shelf;" : Cond) ∈ wsX4_copyOf := by decide +kernel
def Pn_X4_copyOf (gh gs gr : St) (a1 : Int32) (r : Int32) : Prop := ((¬ a1 < 0 ∧ a1 < (gh 0 2)) ∧ (∃ r1 : Int32, P_X3_heldBy gs a1 r1 ∧ (r = r1)))
set_option maxRecDepth 100000 in
set_option maxHeartbeats 4000000 in
theorem cn_X4_copyOf (l : Launch) (dC : Nat → ClassId) (dI : Nat → Nat → Nat) (cI : ClassId) (b0 : Nat) (qh qs qr : Nat → Nat) (gh gs gr : St) (a1 : Int32) (r : Int32) (hp : Pn_X4_copyOf gh gs gr a1 r) : Met l yX4_copyOf wsX4_copyOf { frames := 7, cells := 0, slots := 0, locals := 103 } (va_Pc [.ref b0, .int a1] (rpS (dC, dI) vwCl [(cI, .int)] (wX4 b0 qh qs qr cI gh gs gr))) (QcRead r) 0 0 (fun _ => False) := by
  refine ro_met (cc := cX4_copyOf) (maxL := 2) (ret := (some .int)) (by decide) rfl (Nat.le_of_ble_eq_true rfl) ?_
  intro p e s m below meth c hx hb hml hr hlk hts hown hP hK hN ls hl
  have hl : lv_has ls 2 [(0, .ref b0), (1, .int a1)] := hl
  unfold Pn_X4_copyOf at hp
  refine lv_iload_n hx hb dX4_copyOf_0 rfl (lv_at hl 1 rfl) ?_
  refine lv_aload_n hx hb dX4_copyOf_1 rfl (lv_at hl 0 rfl) ?_
  refine va_get (D := (dC, dI)) (ci := 4) (v := .ref (qh 0)) (C := RX4) (T := TX4) (N := 3) hx hb hts inX4_copyOf_X4 hown hK hP 0 rfl rfl 0 (by decide) (hts _ knX4_copyOf_0) (fun _ h9 => h9) rfl dX4_copyOf_2 ?_
  refine va_getN (D := (dC, dI)) (ci := 0) (v := .int (gh 0 2)) (C := RX0) (T := TX0) (N := 9) (host := RX4) hx hb hts inX4_copyOf_X0 hown hK (t4h hP) 0 rfl rfl 2 (by decide) (nw_use hN 8 rfl) (fun _ h9 => h9) rfl dX4_copyOf_5 ?_
  refine rv_S (As := [.int a1, .int (gh 0 2)]) (rest := []) ⟨hx, hb, hml, hown, hts⟩ (cn_X4_checkIndex l (wc := []) a1 (gh 0 2) hp.1) (va_cwS 2 hts gX4_copyOf_X4_checkIndex rfl rfl rfl (by decide +kernel) ⟨Nat.le_of_ble_eq_true rfl, Nat.le_of_ble_eq_true rfl⟩) (hP.sub [] rfl) hK hN rfl rfl hl.1 (Nat.le_of_ble_eq_true rfl) ⟨Nat.zero_le _, Nat.zero_le _⟩ dX4_copyOf_8 ?_
  have hp := hp.2
  refine lv_aload_n hx hb dX4_copyOf_11 rfl (lv_at hl 0 rfl) ?_
  refine va_get (D := (dC, dI)) (ci := 4) (v := .ref (qs 0)) (C := RX4) (T := TX4) (N := 3) hx hb hts inX4_copyOf_X4 hown hK hP 0 rfl rfl 1 (by decide) (hts _ knX4_copyOf_3) (fun _ h9 => h9) rfl dX4_copyOf_12 ?_
  refine lv_iload_n hx hb dX4_copyOf_15 rfl (lv_at hl 1 rfl) ?_
  obtain ⟨r1, hr1, hp⟩ := hp
  refine ro_V (As := [.int a1]) (rest := []) ⟨hx, hb, hml, hown, hts⟩ (c_X3_heldBy l dC dI cI qs gs a1 r1 hr1) (cwV 1 hts gX4_copyOf_X3_heldBy rfl rfl rfl (by decide +kernel) ⟨Nat.le_of_ble_eq_true rfl, Nat.le_of_ble_eq_true rfl⟩) (t4s hP) hK hN rfl rfl rfl rfl hl.1 (Nat.le_of_ble_eq_true rfl) ⟨Nat.le_of_ble_eq_true rfl, Nat.le_of_ble_eq_true rfl⟩ dX4_copyOf_16 ?_
  exact W.iret hx hb hr (fun t ht _ => ⟨by rw [hp], ht⟩) (fun _ h => nomatch h) dX4_copyOf_19
theorem knX4_depth_0 : (.fieldLink RX4 19 "Meeplehouse" "shelf" "LMeeplehouse$Shelf;" : Cond) ∈ wsX4_depth := by decide +kernel
theorem inX4_depth_X4 : ∀ w ∈ wsX40, w ∈ wsX4_depth := by decide +kernel
theorem inX4_depth_X3 : ∀ w ∈ wsX30, w ∈ wsX4_depth := by decide +kernel
theorem knX4_depth_3 : (.fieldLink RX4 26 "Meeplehouse" "referee" "LMeeplehouse$Referee;" : Cond) ∈ wsX4_depth := by decide +kernel
def Pn_X4_depth (gh gs gr : St) (a1 : Int32) (r : Int32) : Prop := ((¬ a1 < 0 ∧ a1 < (gs 0 0)) ∧ (∃ r1 : Int32, P_X1_deepest gr a1 r1 ∧ (r = r1)))
set_option maxRecDepth 100000 in
set_option maxHeartbeats 4000000 in
theorem cn_X4_depth (l : Launch) (dC : Nat → ClassId) (dI : Nat → Nat → Nat) (cI : ClassId) (b0 : Nat) (qh qs qr : Nat → Nat) (gh gs gr : St) (a1 : Int32) (r : Int32) (hp : Pn_X4_depth gh gs gr a1 r) : Met l yX4_depth wsX4_depth { frames := 7, cells := 0, slots := 0, locals := 103 } (va_Pc [.ref b0, .int a1] (rpS (dC, dI) vwCl [(cI, .int)] (wX4 b0 qh qs qr cI gh gs gr))) (QcRead r) 0 0 (fun _ => False) := by
  refine ro_met (cc := cX4_depth) (maxL := 2) (ret := (some .int)) (by decide) rfl (Nat.le_of_ble_eq_true rfl) ?_
  intro p e s m below meth c hx hb hml hr hlk hts hown hP hK hN ls hl
  have hl : lv_has ls 2 [(0, .ref b0), (1, .int a1)] := hl
  unfold Pn_X4_depth at hp
  refine lv_iload_n hx hb dX4_depth_0 rfl (lv_at hl 1 rfl) ?_
  refine lv_aload_n hx hb dX4_depth_1 rfl (lv_at hl 0 rfl) ?_
  refine va_get (D := (dC, dI)) (ci := 4) (v := .ref (qs 0)) (C := RX4) (T := TX4) (N := 3) hx hb hts inX4_depth_X4 hown hK hP 0 rfl rfl 1 (by decide) (hts _ knX4_depth_0) (fun _ h9 => h9) rfl dX4_depth_2 ?_
  refine va_getN (D := (dC, dI)) (ci := 3) (v := .int (gs 0 0)) (C := RX3) (T := TX3) (N := 11) (host := RX4) hx hb hts inX4_depth_X3 hown hK (t4s hP) 0 rfl rfl 0 (by decide) (nw_use hN 10 rfl) (fun _ h9 => h9) rfl dX4_depth_5 ?_
  refine rv_S (As := [.int a1, .int (gs 0 0)]) (rest := []) ⟨hx, hb, hml, hown, hts⟩ (cn_X4_checkIndex l (wc := []) a1 (gs 0 0) hp.1) (va_cwS 2 hts gX4_depth_X4_checkIndex rfl rfl rfl (by decide +kernel) ⟨Nat.le_of_ble_eq_true rfl, Nat.le_of_ble_eq_true rfl⟩) (hP.sub [] rfl) hK hN rfl rfl hl.1 (Nat.le_of_ble_eq_true rfl) ⟨Nat.zero_le _, Nat.zero_le _⟩ dX4_depth_8 ?_
  have hp := hp.2
  refine lv_aload_n hx hb dX4_depth_11 rfl (lv_at hl 0 rfl) ?_
  refine va_get (D := (dC, dI)) (ci := 4) (v := .ref (qr 0)) (C := RX4) (T := TX4) (N := 3) hx hb hts inX4_depth_X4 hown hK hP 0 rfl rfl 2 (by decide) (hts _ knX4_depth_3) (fun _ h9 => h9) rfl dX4_depth_12 ?_
  refine lv_iload_n hx hb dX4_depth_15 rfl (lv_at hl 1 rfl) ?_
  obtain ⟨r1, hr1, hp⟩ := hp
  refine ro_V (As := [.int a1]) (rest := []) ⟨hx, hb, hml, hown, hts⟩ (c_X1_deepest l dC dI cI qr gr a1 r1 hr1) (cwV 1 hts gX4_depth_X1_deepest rfl rfl rfl (by decide +kernel) ⟨Nat.le_of_ble_eq_true rfl, Nat.le_of_ble_eq_true rfl⟩) (t4r hP) hK hN rfl rfl rfl rfl hl.1 (Nat.le_of_ble_eq_true rfl) ⟨Nat.le_of_ble_eq_true rfl, Nat.le_of_ble_eq_true rfl⟩ dX4_depth_16 ?_
  exact W.iret hx hb hr (fun t ht _ => ⟨by rw [hp], ht⟩) (fun _ h => nomatch h) dX4_depth_19
