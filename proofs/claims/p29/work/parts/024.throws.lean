/-! THROWS: what a start must hold for them, the three checks, their calls -/
abbrev E_i : String := "java/lang/IndexOutOfBoundsException"
abbrev E_a : String := "java/lang/IllegalArgumentException"
abbrev E_s : String := "java/lang/IllegalStateException"
abbrev x_d1 : Cond := .declares (Bundle.initS "java/lang/RuntimeException")
abbrev x_d2 : Cond := .declares (Bundle.initS "java/lang/Exception")
abbrev x_d3 : Cond := .declares (Bundle.initS Bundle.tN)
abbrev xnames : List String := ["java/lang/RuntimeException", "java/lang/Exception"]
def xeS (U : State) : Prop := (∃ sa, vk_R RX4 194 "there is none of this number" sa U) ∧ (∃ sa, vk_R RX4 201 "an argument is out of its range" sa U) ∧ (∃ sa, vk_R RX4 206 "not as things stand" sa U) ∧ va_Nw (.castable E_i E_i) U ∧ va_Nw (.castable E_a E_a) U ∧ va_Nw (.castable E_s E_s) U ∧ va_Nc E_s E_i U ∧ va_Nc E_s E_i U ∧ va_Nc E_a E_i U ∧ va_Nw x_d1 U ∧ va_Nw x_d2 U ∧ va_Nw x_d3 U
def xeH (A : Nat → Prop) (U : State) (H : Heap) : Prop := vx_Zq Bundle.tN "UNASSIGNED_STACK" Bundle.steD A U H ∧ vx_Zq Bundle.tN "SUPPRESSED_SENTINEL" Bundle.listD A U H
theorem xeS_warm {s U : State} (hW : s.WarmedH U.vm) (h : xeS s) : xeS U := by
  obtain ⟨⟨a, ha⟩, ⟨b, hb⟩, ⟨c, hc⟩, h1, h2, h3, h4, h5, h6, d1, d2, d3⟩ := h
  exact ⟨⟨a, vk_R.warm hW ha⟩, ⟨b, vk_R.warm hW hb⟩, ⟨c, vk_R.warm hW hc⟩, va_Nw.warmC hW h1, va_Nw.warmC hW h2, va_Nw.warmC hW h3, va_Nc.moved hW.alike h4, va_Nc.moved hW.alike h5, va_Nc.moved hW.alike h6, va_Nw.warmD hW d1, va_Nw.warmD hW d2, va_Nw.warmD hW d3⟩
theorem xeS_same {u U : State} (hv : u.vm = U.vm) (h : xeS u) : xeS U := by
  obtain ⟨⟨a, ha⟩, ⟨b, hb⟩, ⟨c, hc⟩, h1, h2, h3, h4, h5, h6, d1, d2, d3⟩ := h
  have hal : u.vm.Alike U.vm := by rw [hv]; exact Vm.Alike.refl _
  exact ⟨⟨a, vk_R.same hv.symm ha⟩, ⟨b, vk_R.same hv.symm hb⟩, ⟨c, vk_R.same hv.symm hc⟩, va_Nw.same rfl hv h1, va_Nw.same rfl hv h2, va_Nw.same rfl hv h3, va_Nc.moved hal h4, va_Nc.moved hal h5, va_Nc.moved hal h6, va_Nw.same rfl hv d1, va_Nw.same rfl hv d2, va_Nw.same rfl hv d3⟩
theorem xeH.moved {A : Nat → Prop} {u U : State} {H : Heap} (hvm : u.vm.Alike U.vm) (h : xeH A u H) : xeH A U H := ⟨vx_Zq.moved hvm h.1, vx_Zq.moved hvm h.2⟩
theorem xeH.kept {A : Nat → Prop} {U : State} {H H1 : Heap} (h : xeH A U H) (hq : ∀ a : Nat, a < H.size → ¬ A a → H1[a]? = H[a]?) : xeH A U H1 := ⟨h.1.kept hq, h.2.kept hq⟩
theorem xeH.narrow {A B : Nat → Prop} {U : State} {H : Heap} (h : xeH A U H) (hAB : ∀ q, B q → A q) : xeH B U H := ⟨h.1.narrow hAB, h.2.narrow hAB⟩
abbrev cpS (sz : Nat) (U : State) : Prop := U.heap.size = sz ∧ xeS U ∧ xeH (fun q => sz ≤ q) U U.heap
theorem cp_blind {av : List Value} {sz : Nat} : FrameBlind (va_Pc av (cpS sz)) :=
  fun a U g mk q => ⟨q.1, q.2.1, xeS_same (u := U) (U := U.calling g mk a) rfl q.2.2.1, xeH.moved (u := U) (U := U.calling g mk a) (Vm.Alike.refl U.vm) q.2.2.2⟩
abbrev tpS (D : va_G) (cl : List vw_C) (tys : List (ClassId × FieldType)) (ws : va_W) (sz : Nat) (U : State) : Prop := wpS D cl tys ws sz U ∧ xeS U ∧ xeH (va_A ws sz) U U.heap
theorem tp_blind {av : List Value} {D : va_G} {cl : List vw_C} {tys : List (ClassId × FieldType)} {ws : va_W} {sz : Nat} : FrameBlind (va_Pc av (tpS D cl tys ws sz)) :=
  fun a U g mk q => ⟨q.1, (wp_blind (av := av) a U g mk ⟨q.1, q.2.1⟩).2, xeS_same (u := U) (U := U.calling g mk a) rfl q.2.2.1, xeH.moved (u := U) (U := U.calling g mk a) (Vm.Alike.refl U.vm) q.2.2.2⟩
theorem xat_i : (vx_atS RX4 196 E_i xnames).filter (fun w => !goodWord w) = [x_d1, x_d2, x_d3, .castable E_i E_i] := by decide +kernel
theorem xat_a : (vx_atS RX4 203 E_a xnames).filter (fun w => !goodWord w) = [x_d1, x_d2, x_d3, .castable E_a E_a] := by decide +kernel
theorem xat_s : (vx_atS RX4 208 E_s xnames).filter (fun w => !goodWord w) = [x_d1, x_d2, x_d3, .castable E_s E_s] := by decide +kernel
theorem xfi_i : ∀ w ∈ (vx_atS RX4 196 E_i xnames).filter goodWord, w ∈ wsX4_checkIndex := fun _ h => List.mem_cons_of_mem _ (List.mem_append_right _ h)
theorem xfi_a : ∀ w ∈ (vx_atS RX4 203 E_a xnames).filter goodWord, w ∈ wsX4_checkRange := fun _ h => List.mem_cons_of_mem _ (List.mem_append_right _ h)
theorem xfi_s : ∀ w ∈ (vx_atS RX4 208 E_s xnames).filter goodWord, w ∈ wsX4_checkState := fun _ h => List.mem_cons_of_mem _ (List.mem_append_right _ h)
theorem xg_i : ∀ w ∈ Cond.classLink RX4 192 E_i :: Cond.initialized E_i :: vx_atS RX4 196 E_i xnames, vx_ot w = true := by decide +kernel
theorem xg_a : ∀ w ∈ Cond.classLink RX4 199 E_a :: Cond.initialized E_a :: vx_atS RX4 203 E_a xnames, vx_ot w = true := by decide +kernel
theorem xg_s : ∀ w ∈ Cond.classLink RX4 204 E_s :: Cond.initialized E_s :: vx_atS RX4 208 E_s xnames, vx_ot w = true := by decide +kernel
theorem xk_i1 : (.classLink RX4 192 E_i : Cond) ∈ wsX4_checkIndex := by decide +kernel
theorem xk_i2 : (.initialized E_i : Cond) ∈ wsX4_checkIndex := by decide +kernel
theorem xk_a1 : (.classLink RX4 199 E_a : Cond) ∈ wsX4_checkRange := by decide +kernel
theorem xk_a2 : (.initialized E_a : Cond) ∈ wsX4_checkRange := by decide +kernel
theorem xk_s1 : (.classLink RX4 204 E_s : Cond) ∈ wsX4_checkState := by decide +kernel
theorem xk_s2 : (.initialized E_s : Cond) ∈ wsX4_checkState := by decide +kernel
theorem xn_fit : ∀ n ∈ xnames, Bundle.fit n = true := by decide +kernel
theorem xf_i : Bundle.fit E_i = true := by decide +kernel
theorem xf_a : Bundle.fit E_a = true := by decide +kernel
theorem xf_s : Bundle.fit E_s = true := by decide +kernel
theorem va_F_new {s t : State} (h1 : s.heap.size ≤ t.heap.size) (h2 : ∀ q : Nat, q < s.heap.size → t.heap[q]? = s.heap[q]?) : va_F (fun q => s.heap.size ≤ q) s t := ⟨h1, fun q h _ => h2 q h⟩
/-- the prelude of a check -/
theorem ck_met {l : Launch} {y : MethodName} {ws ws' : List Cond} {rm : Room} {cc : ByteArray} {maxL : Nat} {av : List Value} {sz : Nat} {ok : Prop} {E0 : String}
    (hy : plainName y.cls = true) (hw : ws = Cond.code y cc maxL none :: ws') (hn : (lg_sl av).length ≤ maxL)
    (body : ∀ (p : Program) (e : Env) (s : State) (m : MethodId) (below : List Frame) (meth : Method) (c : Code), p.tables.exec = Jvm.exec → c.code = cc → c.maxLocals = maxL → meth.sig.returnType = none → meth.locks = false → (∀ x ∈ c.exceptionTable.toList, False) → (∀ w ∈ ws, w.before av.toArray s = true) → s.vm.findClass y.cls = some m.cls →
      xeS s → xeH (fun q => s.heap.size ≤ q) s s.heap → ∀ ls : Array Slot, lv_has ls maxL (lv_args 0 av) → W p l e rm s m av.toArray below meth c s.heap [] 0 0 (vx_MQ below (va_Qv (fun _ : Unit => ok) (fun _ _ => True) (fun q => s.heap.size ≤ q)) (vx_X (fun _ : Unit => ¬ ok) (fun E _ _ => E = E0) (fun q => s.heap.size ≤ q)) av.toArray s 1 6 (fun q => s.heap.size ≤ q)) (F0 m 0 ls [])) :
    vx_Met l y ws rm (va_Pc av (cpS sz)) (va_Qv (fun _ : Unit => ok) (fun _ _ => True) (fun q => sz ≤ q)) (vx_X (fun _ : Unit => ¬ ok) (fun E _ _ => E = E0) (fun q => sz ≤ q)) 1 6 (fun q => sz ≤ q) := by
  refine vx_ofW (cc := cc) (maxL := maxL) (ret := none) hy hw ?_
  intro p e s m args below meth c s₁ B hml het hv
  obtain ⟨rfl, hsz, hxs, hxh⟩ := hv
  have hl := lv_entry av (n := maxL) hn
  rw [lg_entry_eq]
  subst hsz
  exact body p e s m below meth c B.exec B.bytes hml B.returns B.notSynchronized het (atoms_spec (ws := ws) B.pre) (findClass_of_methodNamed B.named) hxs hxh _ hl
set_option maxRecDepth 100000 in
set_option maxHeartbeats 4000000 in
theorem c_X4_checkIndex (l : Launch) (hfl : l.stackTraces = false) (a0 a1 : Int32) (sz : Nat) : vx_Met l yX4_checkIndex wsX4_checkIndex { frames := 6, cells := 1, slots := 6, locals := 82 } (va_Pc [.int a0, .int a1] (cpS sz)) (va_Qv (fun _ : Unit => ¬ a0 < 0 ∧ a0 < a1) (fun _ _ => True) (fun q => sz ≤ q)) (vx_X (fun _ : Unit => ¬ (¬ a0 < 0 ∧ a0 < a1)) (fun E _ _ => E = E_i) (fun q => sz ≤ q)) 1 6 (fun q => sz ≤ q) := by
  refine ck_met (cc := cX4_checkIndex) (maxL := 2) (by decide) rfl (Nat.le_of_ble_eq_true rfl) ?_
  intro p e s m below meth c hx hb hml hr hlk het hts hown hxs hxh ls hl
  have hl : lv_has ls 2 [(0, .int a0), (1, .int a1)] := hl
  obtain ⟨⟨sa, hsa⟩, -, -, hca, -, -, -, -, -, d1, d2, d3⟩ := hxs
  have hS : va_S (fun q => s.heap.size ≤ q) s.heap s.heap [] := va_S.rf
  have hat : ∀ w ∈ vx_atS RX4 196 E_i xnames, w.before [Value.int a0, .int a1].toArray s = true := vx_hat (B := [x_d1, x_d2, x_d3, .castable E_i E_i]) (fun w h => hts w (xfi_i w h)) (fun w h => by rw [xat_i] at h; exact h) (vx_c (va_Nw.use rfl d1) (vx_c (va_Nw.use rfl d2) (vx_c (va_Nw.use rfl d3) (vx_c (va_Nw.use rfl hca) vx_n))))
  have thr : ¬ (¬ a0 < 0 ∧ a0 < a1) → ∀ ls : Array Slot, lv_has ls 2 [(0, .int a0), (1, .int a1)] → W p l e { frames := 6, cells := 1, slots := 6, locals := 82 } s m [Value.int a0, .int a1].toArray below meth c s.heap [] 0 0 (vx_MQ below (va_Qv (fun _ : Unit => ¬ a0 < 0 ∧ a0 < a1) (fun _ _ => True) (fun q => s.heap.size ≤ q)) (vx_X (fun _ : Unit => ¬ (¬ a0 < 0 ∧ a0 < a1)) (fun E _ _ => E = E_i) (fun q => s.heap.size ≤ q)) [Value.int a0, .int a1].toArray s 1 6 (fun q => s.heap.size ≤ q)) (F0 m 9 ls []) := by
    intro hno ls hl
    exact vx_throwS (A := fun q => s.heap.size ≤ q) hx hb hfl hown xf_i xn_fit (hts _ xk_i1) (hts _ xk_i2) hsa hat xg_i hxh.1 hxh.2 hS (hl.1.trans hml.symm) dX4_checkIndex_9 dX4_checkIndex_12 dX4_checkIndex_13 dX4_checkIndex_15 dX4_checkIndex_18 (fun x h => (het x h).elim) (Nat.le_of_ble_eq_true rfl) (Nat.le_of_ble_eq_true rfl) (Nat.le_refl _) (Nat.le_refl _) hlk (fun t _ h1 h2 => ⟨(), hno, rfl, va_F_new h1 h2⟩) (fun _ h => nomatch h) (Nat.le_refl _) (Nat.le_refl _)
  refine lv_iload_n hx hb dX4_checkIndex_0 rfl (lv_at hl 0 rfl) ?_
  refine lv_if_lt (tgt := 9) hx hb dX4_checkIndex_1 (by decide) (fun c1 => ?_) (fun c1 => ?_)
  · exact thr (fun h => h.1 c1) ls hl
  · refine lv_iload_n hx hb dX4_checkIndex_4 rfl (lv_at hl 0 rfl) ?_
    refine lv_iload_n hx hb dX4_checkIndex_5 rfl (lv_at hl 1 rfl) ?_
    refine lv_icmp_lt (tgt := 19) hx hb dX4_checkIndex_6 (by decide) (fun c2 => ?_) (fun c2 => ?_)
    · refine vx_ret (W.widen (k := 1) (n := 6) (Nat.zero_le _) (Nat.zero_le _) ?_)
      exact W.vret hx hb hr (fun t ht _ => ⟨⟨(), rfl, ⟨c1, c2⟩, trivial⟩, hS.F ht⟩) hS.2.2 dX4_checkIndex_19
    · exact thr (fun h => c2 h.2) ls hl
set_option maxRecDepth 100000 in
set_option maxHeartbeats 4000000 in
theorem c_X4_checkRange (l : Launch) (hfl : l.stackTraces = false) (a0 a1 a2 : Int32) (sz : Nat) : vx_Met l yX4_checkRange wsX4_checkRange { frames := 6, cells := 1, slots := 6, locals := 82 } (va_Pc [.int a0, .int a1, .int a2] (cpS sz)) (va_Qv (fun _ : Unit => ¬ a0 < a1 ∧ a0 ≤ a2) (fun _ _ => True) (fun q => sz ≤ q)) (vx_X (fun _ : Unit => ¬ (¬ a0 < a1 ∧ a0 ≤ a2)) (fun E _ _ => E = E_a) (fun q => sz ≤ q)) 1 6 (fun q => sz ≤ q) := by
  refine ck_met (cc := cX4_checkRange) (maxL := 3) (by decide) rfl (Nat.le_of_ble_eq_true rfl) ?_
  intro p e s m below meth c hx hb hml hr hlk het hts hown hxs hxh ls hl
  have hl : lv_has ls 3 [(0, .int a0), (1, .int a1), (2, .int a2)] := hl
  obtain ⟨-, ⟨sa, hsa⟩, -, -, hca, -, -, -, -, d1, d2, d3⟩ := hxs
  have hS : va_S (fun q => s.heap.size ≤ q) s.heap s.heap [] := va_S.rf
  have hat : ∀ w ∈ vx_atS RX4 203 E_a xnames, w.before [Value.int a0, .int a1, .int a2].toArray s = true := vx_hat (B := [x_d1, x_d2, x_d3, .castable E_a E_a]) (fun w h => hts w (xfi_a w h)) (fun w h => by rw [xat_a] at h; exact h) (vx_c (va_Nw.use rfl d1) (vx_c (va_Nw.use rfl d2) (vx_c (va_Nw.use rfl d3) (vx_c (va_Nw.use rfl hca) vx_n))))
  have thr : ¬ (¬ a0 < a1 ∧ a0 ≤ a2) → ∀ ls : Array Slot, lv_has ls 3 [(0, .int a0), (1, .int a1), (2, .int a2)] → W p l e { frames := 6, cells := 1, slots := 6, locals := 82 } s m [Value.int a0, .int a1, .int a2].toArray below meth c s.heap [] 0 0 (vx_MQ below (va_Qv (fun _ : Unit => ¬ a0 < a1 ∧ a0 ≤ a2) (fun _ _ => True) (fun q => s.heap.size ≤ q)) (vx_X (fun _ : Unit => ¬ (¬ a0 < a1 ∧ a0 ≤ a2)) (fun E _ _ => E = E_a) (fun q => s.heap.size ≤ q)) [Value.int a0, .int a1, .int a2].toArray s 1 6 (fun q => s.heap.size ≤ q)) (F0 m 10 ls []) := by
    intro hno ls hl
    exact vx_throwS (A := fun q => s.heap.size ≤ q) hx hb hfl hown xf_a xn_fit (hts _ xk_a1) (hts _ xk_a2) hsa hat xg_a hxh.1 hxh.2 hS (hl.1.trans hml.symm) dX4_checkRange_10 dX4_checkRange_13 dX4_checkRange_14 dX4_checkRange_16 dX4_checkRange_19 (fun x h => (het x h).elim) (Nat.le_of_ble_eq_true rfl) (Nat.le_of_ble_eq_true rfl) (Nat.le_refl _) (Nat.le_refl _) hlk (fun t _ h1 h2 => ⟨(), hno, rfl, va_F_new h1 h2⟩) (fun _ h => nomatch h) (Nat.le_refl _) (Nat.le_refl _)
  refine lv_iload_n hx hb dX4_checkRange_0 rfl (lv_at hl 0 rfl) ?_
  refine lv_iload_n hx hb dX4_checkRange_1 rfl (lv_at hl 1 rfl) ?_
  refine lv_icmp_lt (tgt := 10) hx hb dX4_checkRange_2 (by decide) (fun c1 => ?_) (fun c1 => ?_)
  · exact thr (fun h => h.1 c1) ls hl
  · refine lv_iload_n hx hb dX4_checkRange_5 rfl (lv_at hl 0 rfl) ?_
    refine lv_iload_n hx hb dX4_checkRange_6 rfl (lv_at hl 2 rfl) ?_
    refine lv_icmp_le (tgt := 20) hx hb dX4_checkRange_7 (by decide) (fun c2 => ?_) (fun c2 => ?_)
    · refine vx_ret (W.widen (k := 1) (n := 6) (Nat.zero_le _) (Nat.zero_le _) ?_)
      exact W.vret hx hb hr (fun t ht _ => ⟨⟨(), rfl, ⟨c1, c2⟩, trivial⟩, hS.F ht⟩) hS.2.2 dX4_checkRange_20
    · exact thr (fun h => c2 h.2) ls hl
set_option maxRecDepth 100000 in
set_option maxHeartbeats 4000000 in
theorem c_X4_checkState (l : Launch) (hfl : l.stackTraces = false) (a0 : Int32) (sz : Nat) : vx_Met l yX4_checkState wsX4_checkState { frames := 6, cells := 1, slots := 6, locals := 82 } (va_Pc [.int a0] (cpS sz)) (va_Qv (fun _ : Unit => ¬ a0 = 0) (fun _ _ => True) (fun q => sz ≤ q)) (vx_X (fun _ : Unit => ¬ (¬ a0 = 0)) (fun E _ _ => E = E_s) (fun q => sz ≤ q)) 1 6 (fun q => sz ≤ q) := by
  refine ck_met (cc := cX4_checkState) (maxL := 1) (by decide) rfl (Nat.le_of_ble_eq_true rfl) ?_
  intro p e s m below meth c hx hb hml hr hlk het hts hown hxs hxh ls hl
  have hl : lv_has ls 1 [(0, .int a0)] := hl
  obtain ⟨-, -, ⟨sa, hsa⟩, -, -, hca, -, -, -, d1, d2, d3⟩ := hxs
  have hS : va_S (fun q => s.heap.size ≤ q) s.heap s.heap [] := va_S.rf
  have hat : ∀ w ∈ vx_atS RX4 208 E_s xnames, w.before [Value.int a0].toArray s = true := vx_hat (B := [x_d1, x_d2, x_d3, .castable E_s E_s]) (fun w h => hts w (xfi_s w h)) (fun w h => by rw [xat_s] at h; exact h) (vx_c (va_Nw.use rfl d1) (vx_c (va_Nw.use rfl d2) (vx_c (va_Nw.use rfl d3) (vx_c (va_Nw.use rfl hca) vx_n))))
  refine lv_iload_n hx hb dX4_checkState_0 rfl (lv_at hl 0 rfl) ?_
  refine lv_if_ne (tgt := 14) hx hb dX4_checkState_1 (by decide) (fun c1 => ?_) (fun c1 => ?_)
  · refine vx_ret (W.widen (k := 1) (n := 6) (Nat.zero_le _) (Nat.zero_le _) ?_)
    exact W.vret hx hb hr (fun t ht _ => ⟨⟨(), rfl, c1, trivial⟩, hS.F ht⟩) hS.2.2 dX4_checkState_14
  · exact vx_throwS (A := fun q => s.heap.size ≤ q) hx hb hfl hown xf_s xn_fit (hts _ xk_s1) (hts _ xk_s2) hsa hat xg_s hxh.1 hxh.2 hS (hl.1.trans hml.symm) dX4_checkState_4 dX4_checkState_7 dX4_checkState_8 dX4_checkState_10 dX4_checkState_13 (fun x h => (het x h).elim) (Nat.le_of_ble_eq_true rfl) (Nat.le_of_ble_eq_true rfl) (Nat.le_refl _) (Nat.le_refl _) hlk (fun t _ h1 h2 => ⟨(), fun h => h c1, rfl, va_F_new h1 h2⟩) (fun _ h => nomatch h) (Nat.le_refl _) (Nat.le_refl _)
section THS
variable {p : Program} {l : Launch} {e : Env} {R : Room} {s : State} {m : MethodId} {args : Array Value} {below : List Frame} {meth : Method} {c : Code} {H : Heap} {locs : List Loc} {cells slots : Nat}
variable {pc : Nat} {ls : Array Slot} {rest st0 : List Value} {y : MethodName} {bytes cc : ByteArray} {maxL nL n index : Nat} {ret : Option FieldType} {ws : List Cond} {rm : Room} {Ts : List Cond} {own : String} {As : List Value} {D : va_G} {cl : List vw_C} {wc : va_W} {A : Nat → Prop} {ok : Prop} {E0 : String}
variable {Qc : Array Value → State → Outcome → State → Prop} {XC : String → State → State → Prop} {mc ms : Nat}
/-- a check called by a method without a table of its own: it goes on, or the throw leaves the method -/
theorem tx_S (S : CallFix p m c cc nL s args Ts own) (hM : vx_Met l y ws rm (va_Pc As (cpS H.size)) (va_Qv (fun _ : Unit => ok) (fun _ _ => True) (fun q => H.size ≤ q)) (vx_X (fun _ : Unit => ¬ ok) (fun E _ _ => E = E0) (fun q => H.size ≤ q)) 1 6 (fun q => H.size ≤ q))
    (cw : CallB R s args own index y bytes maxL ret ws rm 1 6 n ∧ (Cond.static y).before args s = true) (hP : va_P D cl wc H) (hS : va_S A s.heap H locs) (hA : ∀ q : Nat, s.heap.size ≤ q → A q) (hXS : xeS s) (hXH : xeH A s s.heap) (het : ∀ x ∈ c.exceptionTable.toList, False) (hlk : meth.locks = false)
    (hst : st0 = As.reverse ++ rest) (hn : As.length = n) (hsize : ls.size = nL) (hW : (rest.map fun v => v.category).sum ≤ 8) (hf : cells + 1 ≤ R.cells ∧ slots + 6 ≤ R.slots) (hf2 : cells + 1 ≤ mc ∧ slots + 6 ≤ ms) (hdg : decode cc pc = .ok (.invokestatic index, 3))
    (kx : ¬ ok → ∀ t : State, va_P D cl wc t.heap → va_F A s t → XC E0 s t)
    (kk : ok → ∀ (H1 : Heap) (locs1 : List Loc), va_P D cl wc H1 → va_S A s.heap H1 locs1 → W p l e R s m args below meth c H1 locs1 (cells + 1) (slots + 6) (vx_MQ below Qc XC args s mc ms A) (F0 m (pc + 3) ls rest)) : W p l e R s m args below meth c H locs cells slots (vx_MQ below Qc XC args s mc ms A) (F0 m pc ls st0) := by
  have hle : ∀ q : Nat, H.size ≤ q → A q := fun q h => hA q (Nat.le_trans hS.1 h)
  have hkeep : ∀ H1 : Heap, (∀ q : Nat, q < H.size → ¬ H.size ≤ q → H1[q]? = H[q]?) → va_P D cl wc H1 := fun H1 hk => hP.kept (fun k q hq => hk q.1 (hP k q hq).lt (Nat.not_le.mpr (hP k q hq).lt))
  refine vx_callv (vx_runS (As := As) (rest := rest) S hM cw ⟨cp_blind, fun U hU hW => ⟨rfl, by rw [hU], xeS_warm hW hXS, by rw [hU]; exact xeH.moved hW.alike ((hXH.kept hS.2.1).narrow hle)⟩⟩ rfl hn hsize hst (lv_room hW) hdg hf) hS (fun q _ h => hle q h) hle (fun q _ h => hle q h) ?_ ?_
  · intro E ce q9 u t H1 locs1 ht hvm hpx hbx hz hk1 hS1 hce hcv hcl
    subst hbx
    refine vx_outP (own := own) S.2.2.2.1 hlk (fun z hz => (het z hz).elim) hce hcv hcl (fun t' ht' _ => kx hpx t' (by rw [ht']; exact hkeep H1 hk1) (by exact hS1.F ht')) hS1.2.2 hf2.1 hf2.2
  · intro u t H1 locs1 ht hvm hok hB hz hk1 hS1
    exact kk hok H1 locs1 (hkeep H1 hk1) hS1
end THS
/-- the prelude of a method that throws -/
theorem tx_met {l : Launch} {y : MethodName} {ws ws' : List Cond} {rm : Room} {cc : ByteArray} {maxL : Nat} {ret : Option FieldType} {D : va_G} {cl : List vw_C} {tys : List (ClassId × FieldType)} {wc : va_W} {av : List Value} {sz mc ms : Nat} (Qf : (Nat → Prop) → Array Value → State → Outcome → State → Prop) (Xf : (Nat → Prop) → String → State → State → Prop)
    (hy : plainName y.cls = true) (hw : ws = Cond.code y cc maxL ret :: ws') (hn : (lg_sl av).length ≤ maxL)
    (body : ∀ (p : Program) (e : Env) (s : State) (m : MethodId) (below : List Frame) (meth : Method) (c : Code) (A : Nat → Prop), p.tables.exec = Jvm.exec → c.code = cc → c.maxLocals = maxL → meth.sig.returnType = ret → meth.locks = false → (∀ x ∈ c.exceptionTable.toList, False) → (∀ w ∈ ws, w.before av.toArray s = true) → s.vm.findClass y.cls = some m.cls →
      va_P D cl wc s.heap → va_K D cl tys s → nw s → va_D A wc → (∀ q : Nat, s.heap.size ≤ q → A q) → xeS s → xeH A s s.heap → ∀ ls : Array Slot, lv_has ls maxL (lv_args 0 av) → W p l e rm s m av.toArray below meth c s.heap [] 0 0 (vx_MQ below (Qf A) (Xf A) av.toArray s mc ms A) (F0 m 0 ls [])) :
    vx_Met l y ws rm (va_Pc av (tpS D cl tys wc sz)) (Qf (va_A wc sz)) (Xf (va_A wc sz)) mc ms (va_A wc sz) := by
  refine vx_ofW (cc := cc) (maxL := maxL) (ret := ret) hy hw ?_
  intro p e s m args below meth c s₁ B hml het hv
  obtain ⟨rfl, ⟨hsz, hP, hK, hN, hD⟩, hxs, hxh⟩ := hv
  have hl := lv_entry av (n := maxL) hn
  rw [lg_entry_eq]
  subst hsz
  exact body p e s m below meth c _ B.exec B.bytes hml B.returns B.notSynchronized het (atoms_spec (ws := ws) B.pre) (findClass_of_methodNamed B.named) hP hK hN hD.self (fun q h => Or.inr h) hxs hxh _ hl
