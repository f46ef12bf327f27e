/-! THE LAW'S OWN METHODS -/
theorem tx_V {p : Program} {l : Launch} {e : Env} {R : Room} {s : State} {m : MethodId} {args : Array Value} {below : List Frame} {meth : Method} {c : Code} {H : Heap} {locs : List Loc} {cells slots : Nat} {Q : State → Prop} {pc : Nat} {ls : Array Slot} {rest st0 : List Value} {y : MethodName} {bytes cc : ByteArray} {maxL nL n index : Nat} {ret : Option FieldType} {ws : List Cond} {rm : Room} {Ts : List Cond} {own C : String} {b : Addr} {As : List Value} {D : va_G} {cl : List vw_C} {tys : List (ClassId × FieldType)} {wc w1 w2 ws0 : va_W} {ci N mc ms : Nat} {fs : List Value} {T : u_T} {A : Nat → Prop}
    {U : Type} {post : Int32 → U → Prop} {wd wsd : U → va_W} {px : String → Prop} (S : CallFix p m c cc nL s args Ts own)
    (hM : vx_Met l y ws rm (va_Pc (.ref b :: As) (tpS D cl tys wc H.size)) (va_Qi post (fun u t => wqB D cl (wd u) (va_A wc H.size) t) (va_A wc H.size)) (vx_X (fun _ : Unit => True) (fun E _ t => px E ∧ wqB D cl wc (va_A wc H.size) t) (va_A wc H.size)) mc ms (va_A wc H.size))
    (cw : CallW R s args own C index y bytes maxL ret ws rm mc ms n) (hP : va_P D cl ws0 H) (hD : va_D A ws0) (hS : va_S A s.heap H locs) (hA : ∀ q, s.heap.size ≤ q → A q) (hK : va_K D cl tys s) (hN : nw s) (hXS : xeS s) (hXH : xeH A s s.heap) (hw : ws0 = w1 ++ (wc ++ w2)) (hw' : ∀ u, w1 ++ (wd u ++ w2) = wsd u)
    (he : wc[0]? = some (b, .inr (ci, fs))) (hc : cl[ci]? = some (C, T, N)) (hst : st0 = As.reverse ++ .ref b :: rest) (hn : As.length = n) (hsize : ls.size = nL) (hW : (rest.map fun v => v.category).sum ≤ 8) (hf : cells + mc ≤ R.cells ∧ slots + ms ≤ R.slots) (hdg : decode cc pc = .ok (.invokevirtual index, 3))
    (kx : ∀ (E : String) (ce : Cell) (q9 : Addr) (H1 : Heap) (locs1 : List Loc), px E → va_P D cl ws0 H1 → va_D A ws0 → va_S A s.heap H1 locs1 → H1[q9]? = some ce → ce.vm = .none → s.vm.findClass E = some ce.cls → vx_W p l e R s m args below meth c H1 locs1 (cells + mc) (slots + ms) Q (F0 m pc ls rest) q9)
    (kk : ∀ (r : Int32) (u : U) (H1 : Heap) (locs1 : List Loc), post r u → va_P D cl (wsd u) H1 → va_D A (wsd u) → va_S A s.heap H1 locs1 → W p l e R s m args below meth c H1 locs1 (cells + mc) (slots + ms) Q (F0 m (pc + 3) ls (.int r :: rest))) : W p l e R s m args below meth c H locs cells slots Q (F0 m pc ls st0) := by
  subst hw
  have hF := va_midF hD hS hA
  have hPc : va_P D cl wc H := va_P_mid hP
  have hDc : va_D (fun _ => True) wc := ⟨fun i j x y hi hj hxy => by
    have := hD.1 (w1.length + i) (w1.length + j) x y (by rw [List.getElem?_append_right (by omega), show w1.length + i - w1.length = i by omega, List.getElem?_append_left (List.getElem?_eq_some_iff.mp hi).1]; exact hi) (by rw [List.getElem?_append_right (by omega), show w1.length + j - w1.length = j by omega, List.getElem?_append_left (List.getElem?_eq_some_iff.mp hj).1]; exact hj) hxy
    omega, fun _ _ _ => trivial⟩
  refine vx_calli (vx_runV (As := As) (rest := rest) S hM cw ⟨tp_blind, va_recv hK hPc hc he, fun U hU hW => ⟨rfl, ⟨by rw [hU], by rw [hU]; exact hPc, va_K.moved hW.alike hK, nw_warm hW hN, hDc⟩, xeS_warm hW hXS, by rw [hU]; exact xeH.moved hW.alike ((hXH.kept hS.2.1).narrow hF)⟩⟩ rfl hn hsize hst (lv_room hW) hdg hf) hS (fun q _ h => hF q h) hF (fun q _ h => hF q h) ?_ ?_
  · intro E ce q9 u t H1 locs1 ht hvm hpx hbx hz hk1 hS1 hce hcv hcl
    have hP1 := hbx.2.1
    rw [ht] at hP1
    exact kx E ce q9 H1 locs1 hbx.1 (va_mid hP hD hk1 hF hP1 hbx.2.2).1 (va_mid hP hD hk1 hF hP1 hbx.2.2).2 hS1 hce hcv hcl
  · intro r u t H1 locs1 ht hvm hpo hB hz hk1 hS1
    have hP1 := hB.1
    rw [ht] at hP1
    obtain ⟨k1, k2⟩ := va_mid hP hD hk1 hF hP1 hB.2
    rw [hw' u] at k1 k2
    exact kk r u H1 locs1 hpo k1 k2 hS1
section PWS
variable {p : Program} {l : Launch} {e : Env} {R : Room} {s : State} {m : MethodId} {args : Array Value} {below : List Frame} {meth : Method} {c : Code} {H : Heap} {locs : List Loc} {cells slots : Nat} {Q : State → Prop}
variable {pc : Nat} {ls : Array Slot} {rest st0 : List Value} {y : MethodName} {bytes cc : ByteArray} {maxL nL n index : Nat} {ret : Option FieldType} {ws : List Cond} {rm : Room} {Ts : List Cond} {own C : String} {b : Addr} {As : List Value} {D : va_G} {cl : List vw_C} {tys : List (ClassId × FieldType)} {wc w1 w2 ws0 : va_W} {ci N mc ms : Nat} {fs : List Value} {T : u_T} {A : Nat → Prop}
theorem dc_mid (hD : va_D A (w1 ++ (wc ++ w2))) : va_D (fun _ => True) wc := ⟨fun i j x y hi hj hxy => by
    have := hD.1 (w1.length + i) (w1.length + j) x y (by rw [List.getElem?_append_right (by omega), show w1.length + i - w1.length = i by omega, List.getElem?_append_left (List.getElem?_eq_some_iff.mp hi).1]; exact hi) (by rw [List.getElem?_append_right (by omega), show w1.length + j - w1.length = j by omega, List.getElem?_append_left (List.getElem?_eq_some_iff.mp hj).1]; exact hj) hxy
    omega, fun _ _ _ => trivial⟩
theorem pw_go {U : Type} {post : Int32 → U → Prop} {wd wsd : U → va_W} {a : Array Value} (hr : va_Run p l e R s m args below meth c H locs cells slots mc ms (F0 m pc ls st0) rest (va_Qi post (fun u t => wqB D cl (wd u) (va_A wc H.size) t) (va_A wc H.size) a) (va_A wc H.size))
    (hP : va_P D cl ws0 H) (hD : va_D A ws0) (hS : va_S A s.heap H locs) (hA : ∀ q, s.heap.size ≤ q → A q) (hw : ws0 = w1 ++ (wc ++ w2)) (hw' : ∀ u, w1 ++ (wd u ++ w2) = wsd u)
    (kk : ∀ (r : Int32) (u : U) (H1 : Heap) (locs1 : List Loc), post r u → va_P D cl (wsd u) H1 → va_D A (wsd u) → va_S A s.heap H1 locs1 → W p l e R s m args below meth c H1 locs1 (cells + mc) (slots + ms) Q (F0 m (pc + 3) ls (.int r :: rest))) : W p l e R s m args below meth c H locs cells slots Q (F0 m pc ls st0) := by
  subst hw
  have hF := va_midF hD hS hA
  refine va_calli hr hS (fun q _ h => hF q h) hF (fun r u t H1 locs1 ht hvm hpo hB hz1 hk1 hS1 => ?_)
  have hP1 := hB.1
  rw [ht] at hP1
  obtain ⟨k1, k2⟩ := va_mid hP hD hk1 hF hP1 hB.2
  rw [hw' u] at k1 k2
  exact kk r u H1 locs1 hpo k1 k2 hS1
/-- a method of the class that writes and does not throw -/
theorem pw_V {U : Type} {post : Int32 → U → Prop} {wd wsd : U → va_W} (S : CallFix p m c cc nL s args Ts own)
    (hM : Met l y ws rm (va_Pc (.ref b :: As) (wpS D cl tys wc H.size)) (va_Qi post (fun u t => wqB D cl (wd u) (va_A wc H.size) t) (va_A wc H.size)) mc ms (va_A wc H.size))
    (cw : CallW R s args own C index y bytes maxL ret ws rm mc ms n) (hP : va_P D cl ws0 H) (hD : va_D A ws0) (hS : va_S A s.heap H locs) (hA : ∀ q, s.heap.size ≤ q → A q) (hK : va_K D cl tys s) (hN : nw s) (hw : ws0 = w1 ++ (wc ++ w2)) (hw' : ∀ u, w1 ++ (wd u ++ w2) = wsd u)
    (he : wc[0]? = some (b, .inr (ci, fs))) (hc : cl[ci]? = some (C, T, N)) (hst : st0 = As.reverse ++ .ref b :: rest) (hn : As.length = n) (hsize : ls.size = nL) (hW : (rest.map fun v => v.category).sum ≤ 8) (hf : cells + mc ≤ R.cells ∧ slots + ms ≤ R.slots) (hdg : decode cc pc = .ok (.invokevirtual index, 3))
    (kk : ∀ (r : Int32) (u : U) (H1 : Heap) (locs1 : List Loc), post r u → va_P D cl (wsd u) H1 → va_D A (wsd u) → va_S A s.heap H1 locs1 → W p l e R s m args below meth c H1 locs1 (cells + mc) (slots + ms) Q (F0 m (pc + 3) ls (.int r :: rest))) : W p l e R s m args below meth c H locs cells slots Q (F0 m pc ls st0) := by
  have hPc : va_P D cl wc H := va_P_mid (by rw [← hw]; exact hP)
  exact pw_go (va_runV (As := As) (rest := rest) S hM cw ⟨wp_blind, va_recv hK hPc hc he, fun U hU hW => ⟨rfl, by rw [hU], by rw [hU]; exact hPc, va_K.moved hW.alike hK, nw_warm hW hN, dc_mid (A := A) (w1 := w1) (w2 := w2) (by rw [← hw]; exact hD)⟩⟩ rfl hn hsize hst (lv_room hW) hdg hf) hP hD hS hA hw hw' kk
theorem pw_pre (hP : va_P D cl ws0 H) (hD : va_D A ws0) (hS : va_S A s.heap H locs) (hA : ∀ q, s.heap.size ≤ q → A q) (hK : va_K D cl tys s) (hN : nw s) (hXS : xeS s) (hXH : xeH A s s.heap) (hw : ws0 = w1 ++ (wc ++ w2)) : PreS s H (va_Pc As (tpS D cl tys wc H.size)) As := by
  subst hw
  have hF := va_midF hD hS hA
  have hPc : va_P D cl wc H := va_P_mid hP
  exact ⟨tp_blind, fun U hU hW => ⟨rfl, ⟨by rw [hU], by rw [hU]; exact hPc, va_K.moved hW.alike hK, nw_warm hW hN, dc_mid hD⟩, xeS_warm hW hXS, by rw [hU]; exact xeH.moved hW.alike ((hXH.kept hS.2.1).narrow hF)⟩⟩
/-- a static method of the law that may make throwables but does not throw -/
theorem pw_S {U : Type} {post : Int32 → U → Prop} {wd wsd : U → va_W} (S : CallFix p m c cc nL s args Ts own)
    (hM : Met l y ws rm (va_Pc As (tpS D cl tys wc H.size)) (va_Qi post (fun u t => wqB D cl (wd u) (va_A wc H.size) t) (va_A wc H.size)) mc ms (va_A wc H.size))
    (cw : CallB R s args own index y bytes maxL ret ws rm mc ms n ∧ (Cond.static y).before args s = true) (hP : va_P D cl ws0 H) (hD : va_D A ws0) (hS : va_S A s.heap H locs) (hA : ∀ q, s.heap.size ≤ q → A q) (hK : va_K D cl tys s) (hN : nw s) (hXS : xeS s) (hXH : xeH A s s.heap) (hw : ws0 = w1 ++ (wc ++ w2)) (hw' : ∀ u, w1 ++ (wd u ++ w2) = wsd u)
    (hst : st0 = As.reverse ++ rest) (hn : As.length = n) (hsize : ls.size = nL) (hW : (rest.map fun v => v.category).sum ≤ 8) (hf : cells + mc ≤ R.cells ∧ slots + ms ≤ R.slots) (hdg : decode cc pc = .ok (.invokestatic index, 3))
    (kk : ∀ (r : Int32) (u : U) (H1 : Heap) (locs1 : List Loc), post r u → va_P D cl (wsd u) H1 → va_D A (wsd u) → va_S A s.heap H1 locs1 → W p l e R s m args below meth c H1 locs1 (cells + mc) (slots + ms) Q (F0 m (pc + 3) ls (.int r :: rest))) : W p l e R s m args below meth c H locs cells slots Q (F0 m pc ls st0) :=
  pw_go (va_runS (As := As) (rest := rest) S hM cw (pw_pre hP hD hS hA hK hN hXS hXH hw) rfl hn hsize hst (lv_room hW) hdg hf) hP hD hS hA hw hw' kk
/-- the same, with a table of its own -/
theorem pw_SW {hh : List (Nat × Nat × Nat × Nat)} {U : Type} {post : Int32 → U → Prop} {wd wsd : U → va_W} (S : CallFix p m c cc nL s args Ts own)
    (hM : Met l y ws rm (va_Pc As (tpS D cl tys wc H.size)) (va_Qi post (fun u t => wqB D cl (wd u) (va_A wc H.size) t) (va_A wc H.size)) mc ms (va_A wc H.size))
    (cw : vx_CSW R s args own index y bytes maxL ret hh ws rm mc ms n) (hP : va_P D cl ws0 H) (hD : va_D A ws0) (hS : va_S A s.heap H locs) (hA : ∀ q, s.heap.size ≤ q → A q) (hK : va_K D cl tys s) (hN : nw s) (hXS : xeS s) (hXH : xeH A s s.heap) (hw : ws0 = w1 ++ (wc ++ w2)) (hw' : ∀ u, w1 ++ (wd u ++ w2) = wsd u)
    (hst : st0 = As.reverse ++ rest) (hn : As.length = n) (hsize : ls.size = nL) (hW : (rest.map fun v => v.category).sum ≤ 8) (hf : cells + mc ≤ R.cells ∧ slots + ms ≤ R.slots) (hdg : decode cc pc = .ok (.invokestatic index, 3))
    (kk : ∀ (r : Int32) (u : U) (H1 : Heap) (locs1 : List Loc), post r u → va_P D cl (wsd u) H1 → va_D A (wsd u) → va_S A s.heap H1 locs1 → W p l e R s m args below meth c H1 locs1 (cells + mc) (slots + ms) Q (F0 m (pc + 3) ls (.int r :: rest))) : W p l e R s m args below meth c H locs cells slots Q (F0 m pc ls st0) :=
  pw_go (vx_runSW (As := As) (rest := rest) S hM cw (pw_pre hP hD hS hA hK hN hXS hXH hw) rfl hn hsize hst (lv_room hW) hdg hf) hP hD hS hA hw hw' kk
/-- a static method of the law that may throw -/
theorem px_S {U : Type} {post : Int32 → U → Prop} {wd wsd : U → va_W} {px : String → Prop} (S : CallFix p m c cc nL s args Ts own)
    (hM : vx_Met l y ws rm (va_Pc As (tpS D cl tys wc H.size)) (va_Qi post (fun u t => wqB D cl (wd u) (va_A wc H.size) t) (va_A wc H.size)) (vx_X (fun _ : Unit => True) (fun E _ t => px E ∧ wqB D cl wc (va_A wc H.size) t) (va_A wc H.size)) mc ms (va_A wc H.size))
    (cw : CallB R s args own index y bytes maxL ret ws rm mc ms n ∧ (Cond.static y).before args s = true) (hP : va_P D cl ws0 H) (hD : va_D A ws0) (hS : va_S A s.heap H locs) (hA : ∀ q, s.heap.size ≤ q → A q) (hK : va_K D cl tys s) (hN : nw s) (hXS : xeS s) (hXH : xeH A s s.heap) (hw : ws0 = w1 ++ (wc ++ w2)) (hw' : ∀ u, w1 ++ (wd u ++ w2) = wsd u)
    (hst : st0 = As.reverse ++ rest) (hn : As.length = n) (hsize : ls.size = nL) (hW : (rest.map fun v => v.category).sum ≤ 8) (hf : cells + mc ≤ R.cells ∧ slots + ms ≤ R.slots) (hdg : decode cc pc = .ok (.invokestatic index, 3))
    (kx : ∀ (E : String) (ce : Cell) (q9 : Addr) (H1 : Heap) (locs1 : List Loc), px E → va_P D cl ws0 H1 → va_D A ws0 → va_S A s.heap H1 locs1 → H1[q9]? = some ce → ce.vm = .none → s.vm.findClass E = some ce.cls → vx_W p l e R s m args below meth c H1 locs1 (cells + mc) (slots + ms) Q (F0 m pc ls rest) q9)
    (kk : ∀ (r : Int32) (u : U) (H1 : Heap) (locs1 : List Loc), post r u → va_P D cl (wsd u) H1 → va_D A (wsd u) → va_S A s.heap H1 locs1 → W p l e R s m args below meth c H1 locs1 (cells + mc) (slots + ms) Q (F0 m (pc + 3) ls (.int r :: rest))) : W p l e R s m args below meth c H locs cells slots Q (F0 m pc ls st0) := by
  have hpre : PreS s H (va_Pc As (tpS D cl tys wc H.size)) As := pw_pre hP hD hS hA hK hN hXS hXH hw
  subst hw
  have hF := va_midF hD hS hA
  refine vx_calli (vx_runS (As := As) (rest := rest) S hM cw hpre rfl hn hsize hst (lv_room hW) hdg hf) hS (fun q _ h => hF q h) hF (fun q _ h => hF q h) ?_ ?_
  · intro E ce q9 u t H1 locs1 ht hvm hpx hbx hz hk1 hS1 hce hcv hcl
    have hP1 := hbx.2.1
    rw [ht] at hP1
    exact kx E ce q9 H1 locs1 hbx.1 (va_mid hP hD hk1 hF hP1 hbx.2.2).1 (va_mid hP hD hk1 hF hP1 hbx.2.2).2 hS1 hce hcv hcl
  · intro r u t H1 locs1 ht hvm hpo hB hz hk1 hS1
    have hP1 := hB.1
    rw [ht] at hP1
    obtain ⟨k1, k2⟩ := va_mid hP hD hk1 hF hP1 hB.2
    rw [hw' u] at k1 k2
    exact kk r u H1 locs1 hpo k1 k2 hS1
end PWS
theorem tl_met {l : Launch} {y : MethodName} {ws ws' : List Cond} {rm : Room} {cc : ByteArray} {maxL : Nat} {ret : Option FieldType} {hh : List (Nat × Nat × Nat × Nat)} {D : va_G} {cl : List vw_C} {tys : List (ClassId × FieldType)} {wc : va_W} {av : List Value} {sz mc ms : Nat} (Qf : (Nat → Prop) → Array Value → State → Outcome → State → Prop)
    (hy : plainName y.cls = true) (hw : ws = Cond.codeWith y cc maxL ret hh :: ws') (hn : (lg_sl av).length ≤ maxL)
    (body : ∀ (p : Program) (e : Env) (s : State) (m : MethodId) (below : List Frame) (meth : Method) (c : Code) (A : Nat → Prop), p.tables.exec = Jvm.exec → c.code = cc → c.maxLocals = maxL → meth.sig.returnType = ret → meth.locks = false → c.exceptionTable.toList = tableOf hh → (∀ w ∈ ws, w.before av.toArray s = true) → s.vm.findClass y.cls = some m.cls →
      va_P D cl wc s.heap → va_K D cl tys s → nw s → va_D A wc → (∀ q : Nat, s.heap.size ≤ q → A q) → xeS s → xeH A s s.heap → ∀ ls : Array Slot, lv_has ls maxL (lv_args 0 av) → W p l e rm s m av.toArray below meth c s.heap [] 0 0 (MQ below (Qf A) av.toArray s mc ms A) (F0 m 0 ls [])) :
    Met l y ws rm (va_Pc av (tpS D cl tys wc sz)) (Qf (va_A wc sz)) mc ms (va_A wc sz) := by
  refine va_MetW (cc := cc) (maxL := maxL) (ret := ret) hy hw ?_
  intro p e s m args below meth c s₁ B hml hv
  obtain ⟨rfl, ⟨hsz, hP, hK, hN, hD⟩, hxs, hxh⟩ := hv
  have hl := lv_entry av (n := maxL) hn
  rw [lg_entry_eq]
  subst hsz
  have hts := atoms_spec (ws := ws) B.pre
  exact body p e s m below meth c _ B.exec B.bytes hml B.returns B.notSynchronized (vx_table (x := y) B (hts _ (by rw [hw]; exact List.mem_cons_self))) hts (findClass_of_methodNamed B.named) hP hK hN hD.self (fun q h => Or.inr h) hxs hxh _ hl
theorem tp_met {l : Launch} {y : MethodName} {ws ws' : List Cond} {rm : Room} {cc : ByteArray} {maxL : Nat} {ret : Option FieldType} {D : va_G} {cl : List vw_C} {tys : List (ClassId × FieldType)} {wc : va_W} {av : List Value} {sz mc ms : Nat} (Qf : (Nat → Prop) → Array Value → State → Outcome → State → Prop)
    (hy : plainName y.cls = true) (hw : ws = Cond.code y cc maxL ret :: ws') (hn : (lg_sl av).length ≤ maxL)
    (body : ∀ (p : Program) (e : Env) (s : State) (m : MethodId) (below : List Frame) (meth : Method) (c : Code) (A : Nat → Prop), p.tables.exec = Jvm.exec → c.code = cc → c.maxLocals = maxL → meth.sig.returnType = ret → meth.locks = false → (∀ w ∈ ws, w.before av.toArray s = true) → s.vm.findClass y.cls = some m.cls →
      va_P D cl wc s.heap → va_K D cl tys s → nw s → va_D A wc → (∀ q : Nat, s.heap.size ≤ q → A q) → xeS s → xeH A s s.heap → ∀ ls : Array Slot, lv_has ls maxL (lv_args 0 av) → W p l e rm s m av.toArray below meth c s.heap [] 0 0 (MQ below (Qf A) av.toArray s mc ms A) (F0 m 0 ls [])) :
    Met l y ws rm (va_Pc av (tpS D cl tys wc sz)) (Qf (va_A wc sz)) mc ms (va_A wc sz) := by
  refine Met.ofW (cc := cc) (maxL := maxL) (ret := ret) hy hw ?_
  intro p e s m args below meth c s₁ B hml hv
  obtain ⟨rfl, ⟨hsz, hP, hK, hN, hD⟩, hxs, hxh⟩ := hv
  have hl := lv_entry av (n := maxL) hn
  rw [lg_entry_eq]
  subst hsz
  exact body p e s m below meth c _ B.exec B.bytes hml B.returns B.notSynchronized (atoms_spec (ws := ws) B.pre) (findClass_of_methodNamed B.named) hP hK hN hD.self (fun q h => Or.inr h) hxs hxh _ hl
/-- the law's world: the café, the law's seven rows of numbers -/
def wA (qa : Nat → Nat) (cI : ClassId) (ga : St) : va_W := [(qa 0, .inl (cI, 10, .inl (ga 0))), (qa 1, .inl (cI, 30, .inl (ga 1))), (qa 2, .inl (cI, 30, .inl (ga 2))), (qa 3, .inl (cI, 16, .inl (ga 3))), (qa 4, .inl (cI, 32, .inl (ga 4))), (qa 5, .inl (cI, 24, .inl (ga 5))), (qa 6, .inl (cI, 8, .inl (ga 6)))]
def wLL (b0 : Nat) (qh qs qr qa : Nat → Nat) (cI : ClassId) (gh gs gr ga : St) : va_W := wX4 b0 qh qs qr cI gh gs gr ++ wA qa cI ga
theorem wLL_eq (b0 : Nat) (qh qs qr qa : Nat → Nat) (cI : ClassId) (gh gs gr ga : St) : wLL b0 qh qs qr qa cI gh gs gr ga = [] ++ (wX4 b0 qh qs qr cI gh gs gr ++ wA qa cI ga) := rfl
theorem wLL_nil (b0 : Nat) (qh qs qr qa : Nat → Nat) (cI : ClassId) (gh gs gr ga : St) : wLL b0 qh qs qr qa cI gh gs gr ga = [] ++ (wLL b0 qh qs qr qa cI gh gs gr ga ++ []) := (List.append_nil _).symm
theorem wX4_nil (b0 : Nat) (qh qs qr : Nat → Nat) (cI : ClassId) (gh gs gr : St) : wX4 b0 qh qs qr cI gh gs gr = [] ++ (wX4 b0 qh qs qr cI gh gs gr ++ []) := (List.append_nil _).symm
theorem tLL {D : va_G} {cl : List vw_C} {H : Heap} {b0 : Nat} {qh qs qr qa : Nat → Nat} {cI : ClassId} {gh gs gr ga : St} (h : va_P D cl (wLL b0 qh qs qr qa cI gh gs gr ga) H) : va_P D cl (wX4 b0 qh qs qr cI gh gs gr) H := va_P_mid (w1 := []) (by rw [wLL_eq] at h; exact h)
def P_L_asks (gh gs gr : St) (a1 a2 a3 a4 : Int32) (ok : Int32 → St → St → St → Prop) (ex : String → Prop) : Prop := (¬ a1 = 0 → ((¬ a1 = (1 : Int32) → ((¬ a1 = (2 : Int32) → ((¬ a1 = (3 : Int32) → ((¬ a1 = (4 : Int32) → ((¬ a1 = (5 : Int32) → ((¬ a1 = (6 : Int32) → ((¬ a1 = (7 : Int32) → (P_X4_arrive gh gs gr a2 a3 ok ex)) ∧ (a1 = (7 : Int32) → (P_X4_offerAt gh gs gr a2 a3 ok ex)))) ∧ (a1 = (6 : Int32) → (P_X4_rulingFromBelow gh gs gr a2 ok ex)))) ∧ (a1 = (5 : Int32) → (P_X4_ruling gh gs gr a2 ok ex)))) ∧ (a1 = (4 : Int32) → (P_X4_found gh gs gr a2 a3 a4 ok ex)))) ∧ (a1 = (3 : Int32) → (P_X4_giveBack gh gs gr a2 a3 a4 ok ex)))) ∧ (a1 = (2 : Int32) → (P_X4_serve gh gs gr a2 a3 ok ex)))) ∧ (a1 = (1 : Int32) → (P_X4_left gh gs gr a2 ok ex)))) ∧ (a1 = 0 → (P_X4_leave gh gs gr a2 ok ex))
set_option maxRecDepth 100000 in
set_option maxHeartbeats 4000000 in
theorem c_L_asks (l : Launch) (hfl : l.stackTraces = false) (dC : Nat → ClassId) (dI : Nat → Nat → Nat) (cI : ClassId) (b0 : Nat) (qh qs qr : Nat → Nat) (gh gs gr : St) (a1 a2 a3 a4 : Int32) (ok : Int32 → St → St → St → Prop) (ex : String → Prop) (hp : P_L_asks gh gs gr a1 a2 a3 a4 ok ex) (sz : Nat) : vx_Met l yL_asks wsL_asks { frames := 8, cells := 4, slots := 24, locals := 161 } (va_Pc [.ref b0, .int a1, .int a2, .int a3, .int a4] (tpS (dC, dI) vwCl [(cI, .int)] (wX4 b0 qh qs qr cI gh gs gr) sz)) (va_Qi (fun (r : Int32) (u : St × St × St) => ok r u.1 u.2.1 u.2.2) (fun u t => wqB (dC, dI) vwCl (wX4 b0 qh qs qr cI u.1 u.2.1 u.2.2) (va_A (wX4 b0 qh qs qr cI gh gs gr) sz) t) (va_A (wX4 b0 qh qs qr cI gh gs gr) sz)) (vx_X (fun _ : Unit => True) (fun E _ t => ex E ∧ wqB (dC, dI) vwCl (wX4 b0 qh qs qr cI gh gs gr) (va_A (wX4 b0 qh qs qr cI gh gs gr) sz) t) (va_A (wX4 b0 qh qs qr cI gh gs gr) sz)) 4 24 (va_A (wX4 b0 qh qs qr cI gh gs gr) sz) := by
  refine tx_met (fun A => (va_Qi (fun (r : Int32) (u : St × St × St) => ok r u.1 u.2.1 u.2.2) (fun u t => wqB (dC, dI) vwCl (wX4 b0 qh qs qr cI u.1 u.2.1 u.2.2) A t) A)) (fun A => (vx_X (fun _ : Unit => True) (fun E _ t => ex E ∧ wqB (dC, dI) vwCl (wX4 b0 qh qs qr cI gh gs gr) A t) A)) (cc := cL_asks) (maxL := 5) (ret := (some .int)) (by decide) rfl (Nat.le_of_ble_eq_true rfl) ?_
  intro p e s m below meth c A hx hb hml hr hlk het hts hown hP hK hN hD hA hXS hXH ls hl
  have hS : va_S A s.heap s.heap [] := va_S.rf
  have hl : lv_has ls 5 [(0, .ref b0), (1, .int a1), (2, .int a2), (3, .int a3), (4, .int a4)] := hl
  unfold P_L_asks at hp
  refine lv_iload_n hx hb dL_asks_0 rfl (lv_at hl 1 rfl) ?_
  refine lv_if_ne (tgt := 12) hx hb dL_asks_1 (by decide) (fun c => ?_) (fun c => ?_)
  · have hp := hp.1 c
    refine lv_iload_n hx hb dL_asks_12 rfl (lv_at hl 1 rfl) ?_
    refine lv_iconst (v := 1) hx hb dL_asks_13 (by decide) ?_
    refine lv_icmp_ne (tgt := 25) hx hb dL_asks_14 (by decide) (fun c => ?_) (fun c => ?_)
    · have hp := hp.1 c
      refine lv_iload_n hx hb dL_asks_25 rfl (lv_at hl 1 rfl) ?_
      refine lv_iconst (v := 2) hx hb dL_asks_26 (by decide) ?_
      refine lv_icmp_ne (tgt := 39) hx hb dL_asks_27 (by decide) (fun c => ?_) (fun c => ?_)
      · have hp := hp.1 c
        refine lv_iload_n hx hb dL_asks_39 rfl (lv_at hl 1 rfl) ?_
        refine lv_iconst (v := 3) hx hb dL_asks_40 (by decide) ?_
        refine lv_icmp_ne (tgt := 55) hx hb dL_asks_41 (by decide) (fun c => ?_) (fun c => ?_)
        · have hp := hp.1 c
          refine lv_iload_n hx hb dL_asks_55 rfl (lv_at hl 1 rfl) ?_
          refine lv_iconst (v := 4) hx hb dL_asks_56 (by decide) ?_
          refine lv_icmp_ne (tgt := 71) hx hb dL_asks_57 (by decide) (fun c => ?_) (fun c => ?_)
          · have hp := hp.1 c
            refine lv_iload_n hx hb dL_asks_71 rfl (lv_at hl 1 rfl) ?_
            refine lv_iconst (v := 5) hx hb dL_asks_72 (by decide) ?_
            refine lv_icmp_ne (tgt := 84) hx hb dL_asks_73 (by decide) (fun c => ?_) (fun c => ?_)
            · have hp := hp.1 c
              refine lv_iload_n hx hb dL_asks_84 rfl (lv_at hl 1 rfl) ?_
              refine lv_bipush (v := 6) hx hb dL_asks_85 (by decide) ?_
              refine lv_icmp_ne (tgt := 98) hx hb dL_asks_87 (by decide) (fun c => ?_) (fun c => ?_)
              · have hp := hp.1 c
                refine lv_iload_n hx hb dL_asks_98 rfl (lv_at hl 1 rfl) ?_
                refine lv_bipush (v := 7) hx hb dL_asks_99 (by decide) ?_
                refine lv_icmp_ne (tgt := 113) hx hb dL_asks_101 (by decide) (fun c => ?_) (fun c => ?_)
                · have hp := hp.1 c
                  refine lv_aload_n hx hb dL_asks_113 rfl (lv_at hl 0 rfl) ?_
                  refine lv_iload_n hx hb dL_asks_114 rfl (lv_at hl 2 rfl) ?_
                  refine lv_iload_n hx hb dL_asks_115 rfl (lv_at hl 3 rfl) ?_
                  refine tx_V (As := [.int a2, .int a3]) (rest := []) (w1 := []) (w2 := []) (wsd := fun u : St × St × St => wX4 b0 qh qs qr cI u.1 u.2.1 u.2.2) ⟨hx, hb, hml, hown, hts⟩ (c_X4_arrive l hfl dC dI cI b0 qh qs qr gh gs gr a2 a3 ok ex hp _) (cwV 2 hts gL_asks_X4_arrive rfl rfl rfl (by decide +kernel) ⟨Nat.le_of_ble_eq_true rfl, Nat.le_of_ble_eq_true rfl⟩) hP hD hS hA hK hN hXS hXH (wX4_nil ..) (fun u => (wX4_nil ..).symm) rfl rfl rfl rfl hl.1 (Nat.le_of_ble_eq_true rfl) ⟨Nat.le_of_ble_eq_true rfl, Nat.le_of_ble_eq_true rfl⟩ dL_asks_116 ?_ ?_
                  · intro E ce q9 H locs hpx hP hD hS hce hcv hcl
                    exact vx_outP (own := RL) hown hlk (fun z hz => (het z hz).elim) hce hcv hcl (fun t ht _ => ⟨(), trivial, ⟨hpx, by rw [ht]; exact hP, hD⟩, hS.F ht⟩) hS.2.2 (Nat.le_of_ble_eq_true rfl) (Nat.le_of_ble_eq_true rfl)
                  · intro r u H locs hpo hP hD hS
                    refine vx_ret (W.widen (k := 4) (n := 24) (Nat.le_of_ble_eq_true rfl) (Nat.le_of_ble_eq_true rfl) ?_)
                    exact W.iret hx hb hr (fun t ht _ => ⟨⟨_, u, rfl, hpo, by rw [ht]; exact hP, hD⟩, hS.F ht⟩) hS.2.2 dL_asks_119
                · have hp := hp.2 c
                  refine lv_aload_n hx hb dL_asks_104 rfl (lv_at hl 0 rfl) ?_
                  refine lv_iload_n hx hb dL_asks_105 rfl (lv_at hl 2 rfl) ?_
                  refine lv_iload_n hx hb dL_asks_106 rfl (lv_at hl 3 rfl) ?_
                  refine tx_V (As := [.int a2, .int a3]) (rest := []) (w1 := []) (w2 := []) (wsd := fun u : St × St × St => wX4 b0 qh qs qr cI u.1 u.2.1 u.2.2) ⟨hx, hb, hml, hown, hts⟩ (c_X4_offerAt l hfl dC dI cI b0 qh qs qr gh gs gr a2 a3 ok ex hp _) (cwV 2 hts gL_asks_X4_offerAt rfl rfl rfl (by decide +kernel) ⟨Nat.le_of_ble_eq_true rfl, Nat.le_of_ble_eq_true rfl⟩) hP hD hS hA hK hN hXS hXH (wX4_nil ..) (fun u => (wX4_nil ..).symm) rfl rfl rfl rfl hl.1 (Nat.le_of_ble_eq_true rfl) ⟨Nat.le_of_ble_eq_true rfl, Nat.le_of_ble_eq_true rfl⟩ dL_asks_107 ?_ ?_
                  · intro E ce q9 H locs hpx hP hD hS hce hcv hcl
                    exact vx_outP (own := RL) hown hlk (fun z hz => (het z hz).elim) hce hcv hcl (fun t ht _ => ⟨(), trivial, ⟨hpx, by rw [ht]; exact hP, hD⟩, hS.F ht⟩) hS.2.2 (Nat.le_of_ble_eq_true rfl) (Nat.le_of_ble_eq_true rfl)
                  · intro r u H locs hpo hP hD hS
                    refine lv_goto (tgt := 119) hx hb dL_asks_110 (by decide) ?_
                    refine vx_ret (W.widen (k := 4) (n := 24) (Nat.le_of_ble_eq_true rfl) (Nat.le_of_ble_eq_true rfl) ?_)
                    exact W.iret hx hb hr (fun t ht _ => ⟨⟨_, u, rfl, hpo, by rw [ht]; exact hP, hD⟩, hS.F ht⟩) hS.2.2 dL_asks_119
              · have hp := hp.2 c
                refine lv_aload_n hx hb dL_asks_90 rfl (lv_at hl 0 rfl) ?_
                refine lv_iload_n hx hb dL_asks_91 rfl (lv_at hl 2 rfl) ?_
                refine tx_V (As := [.int a2]) (rest := []) (w1 := []) (w2 := []) (wsd := fun u : St × St × St => wX4 b0 qh qs qr cI u.1 u.2.1 u.2.2) ⟨hx, hb, hml, hown, hts⟩ (c_X4_rulingFromBelow l hfl dC dI cI b0 qh qs qr gh gs gr a2 ok ex hp _) (cwV 1 hts gL_asks_X4_rulingFromBelow rfl rfl rfl (by decide +kernel) ⟨Nat.le_of_ble_eq_true rfl, Nat.le_of_ble_eq_true rfl⟩) hP hD hS hA hK hN hXS hXH (wX4_nil ..) (fun u => (wX4_nil ..).symm) rfl rfl rfl rfl hl.1 (Nat.le_of_ble_eq_true rfl) ⟨Nat.le_of_ble_eq_true rfl, Nat.le_of_ble_eq_true rfl⟩ dL_asks_92 ?_ ?_
                · intro E ce q9 H locs hpx hP hD hS hce hcv hcl
                  exact vx_outP (own := RL) hown hlk (fun z hz => (het z hz).elim) hce hcv hcl (fun t ht _ => ⟨(), trivial, ⟨hpx, by rw [ht]; exact hP, hD⟩, hS.F ht⟩) hS.2.2 (Nat.le_of_ble_eq_true rfl) (Nat.le_of_ble_eq_true rfl)
                · intro r u H locs hpo hP hD hS
                  refine lv_goto (tgt := 119) hx hb dL_asks_95 (by decide) ?_
                  refine vx_ret (W.widen (k := 4) (n := 24) (Nat.le_of_ble_eq_true rfl) (Nat.le_of_ble_eq_true rfl) ?_)
                  exact W.iret hx hb hr (fun t ht _ => ⟨⟨_, u, rfl, hpo, by rw [ht]; exact hP, hD⟩, hS.F ht⟩) hS.2.2 dL_asks_119
            · have hp := hp.2 c
              refine lv_aload_n hx hb dL_asks_76 rfl (lv_at hl 0 rfl) ?_
              refine lv_iload_n hx hb dL_asks_77 rfl (lv_at hl 2 rfl) ?_
              refine tx_V (As := [.int a2]) (rest := []) (w1 := []) (w2 := []) (wsd := fun u : St × St × St => wX4 b0 qh qs qr cI u.1 u.2.1 u.2.2) ⟨hx, hb, hml, hown, hts⟩ (c_X4_ruling l hfl dC dI cI b0 qh qs qr gh gs gr a2 ok ex hp _) (cwV 1 hts gL_asks_X4_ruling rfl rfl rfl (by decide +kernel) ⟨Nat.le_of_ble_eq_true rfl, Nat.le_of_ble_eq_true rfl⟩) hP hD hS hA hK hN hXS hXH (wX4_nil ..) (fun u => (wX4_nil ..).symm) rfl rfl rfl rfl hl.1 (Nat.le_of_ble_eq_true rfl) ⟨Nat.le_of_ble_eq_true rfl, Nat.le_of_ble_eq_true rfl⟩ dL_asks_78 ?_ ?_
              · intro E ce q9 H locs hpx hP hD hS hce hcv hcl
                exact vx_outP (own := RL) hown hlk (fun z hz => (het z hz).elim) hce hcv hcl (fun t ht _ => ⟨(), trivial, ⟨hpx, by rw [ht]; exact hP, hD⟩, hS.F ht⟩) hS.2.2 (Nat.le_of_ble_eq_true rfl) (Nat.le_of_ble_eq_true rfl)
              · intro r u H locs hpo hP hD hS
                refine lv_goto (tgt := 119) hx hb dL_asks_81 (by decide) ?_
                refine vx_ret (W.widen (k := 4) (n := 24) (Nat.le_of_ble_eq_true rfl) (Nat.le_of_ble_eq_true rfl) ?_)
                exact W.iret hx hb hr (fun t ht _ => ⟨⟨_, u, rfl, hpo, by rw [ht]; exact hP, hD⟩, hS.F ht⟩) hS.2.2 dL_asks_119
          · have hp := hp.2 c
            refine lv_aload_n hx hb dL_asks_60 rfl (lv_at hl 0 rfl) ?_
            refine lv_iload_n hx hb dL_asks_61 rfl (lv_at hl 2 rfl) ?_
            refine lv_iload_n hx hb dL_asks_62 rfl (lv_at hl 3 rfl) ?_
            refine lv_iload hx hb dL_asks_63 (lv_at hl 4 rfl) ?_
            refine tx_V (As := [.int a2, .int a3, .int a4]) (rest := []) (w1 := []) (w2 := []) (wsd := fun u : St × St × St => wX4 b0 qh qs qr cI u.1 u.2.1 u.2.2) ⟨hx, hb, hml, hown, hts⟩ (c_X4_found l hfl dC dI cI b0 qh qs qr gh gs gr a2 a3 a4 ok ex hp _) (cwV 3 hts gL_asks_X4_found rfl rfl rfl (by decide +kernel) ⟨Nat.le_of_ble_eq_true rfl, Nat.le_of_ble_eq_true rfl⟩) hP hD hS hA hK hN hXS hXH (wX4_nil ..) (fun u => (wX4_nil ..).symm) rfl rfl rfl rfl hl.1 (Nat.le_of_ble_eq_true rfl) ⟨Nat.le_of_ble_eq_true rfl, Nat.le_of_ble_eq_true rfl⟩ dL_asks_65 ?_ ?_
            · intro E ce q9 H locs hpx hP hD hS hce hcv hcl
              exact vx_outP (own := RL) hown hlk (fun z hz => (het z hz).elim) hce hcv hcl (fun t ht _ => ⟨(), trivial, ⟨hpx, by rw [ht]; exact hP, hD⟩, hS.F ht⟩) hS.2.2 (Nat.le_of_ble_eq_true rfl) (Nat.le_of_ble_eq_true rfl)
            · intro r u H locs hpo hP hD hS
              refine lv_goto (tgt := 119) hx hb dL_asks_68 (by decide) ?_
              refine vx_ret (W.widen (k := 4) (n := 24) (Nat.le_of_ble_eq_true rfl) (Nat.le_of_ble_eq_true rfl) ?_)
              exact W.iret hx hb hr (fun t ht _ => ⟨⟨_, u, rfl, hpo, by rw [ht]; exact hP, hD⟩, hS.F ht⟩) hS.2.2 dL_asks_119
        · have hp := hp.2 c
          refine lv_aload_n hx hb dL_asks_44 rfl (lv_at hl 0 rfl) ?_
          refine lv_iload_n hx hb dL_asks_45 rfl (lv_at hl 2 rfl) ?_
          refine lv_iload_n hx hb dL_asks_46 rfl (lv_at hl 3 rfl) ?_
          refine lv_iload hx hb dL_asks_47 (lv_at hl 4 rfl) ?_
          refine tx_V (As := [.int a2, .int a3, .int a4]) (rest := []) (w1 := []) (w2 := []) (wsd := fun u : St × St × St => wX4 b0 qh qs qr cI u.1 u.2.1 u.2.2) ⟨hx, hb, hml, hown, hts⟩ (c_X4_giveBack l hfl dC dI cI b0 qh qs qr gh gs gr a2 a3 a4 ok ex hp _) (cwV 3 hts gL_asks_X4_giveBack rfl rfl rfl (by decide +kernel) ⟨Nat.le_of_ble_eq_true rfl, Nat.le_of_ble_eq_true rfl⟩) hP hD hS hA hK hN hXS hXH (wX4_nil ..) (fun u => (wX4_nil ..).symm) rfl rfl rfl rfl hl.1 (Nat.le_of_ble_eq_true rfl) ⟨Nat.le_of_ble_eq_true rfl, Nat.le_of_ble_eq_true rfl⟩ dL_asks_49 ?_ ?_
          · intro E ce q9 H locs hpx hP hD hS hce hcv hcl
            exact vx_outP (own := RL) hown hlk (fun z hz => (het z hz).elim) hce hcv hcl (fun t ht _ => ⟨(), trivial, ⟨hpx, by rw [ht]; exact hP, hD⟩, hS.F ht⟩) hS.2.2 (Nat.le_of_ble_eq_true rfl) (Nat.le_of_ble_eq_true rfl)
          · intro r u H locs hpo hP hD hS
            refine lv_goto (tgt := 119) hx hb dL_asks_52 (by decide) ?_
            refine vx_ret (W.widen (k := 4) (n := 24) (Nat.le_of_ble_eq_true rfl) (Nat.le_of_ble_eq_true rfl) ?_)
            exact W.iret hx hb hr (fun t ht _ => ⟨⟨_, u, rfl, hpo, by rw [ht]; exact hP, hD⟩, hS.F ht⟩) hS.2.2 dL_asks_119
      · have hp := hp.2 c
        refine lv_aload_n hx hb dL_asks_30 rfl (lv_at hl 0 rfl) ?_
        refine lv_iload_n hx hb dL_asks_31 rfl (lv_at hl 2 rfl) ?_
        refine lv_iload_n hx hb dL_asks_32 rfl (lv_at hl 3 rfl) ?_
        refine tx_V (As := [.int a2, .int a3]) (rest := []) (w1 := []) (w2 := []) (wsd := fun u : St × St × St => wX4 b0 qh qs qr cI u.1 u.2.1 u.2.2) ⟨hx, hb, hml, hown, hts⟩ (c_X4_serve l hfl dC dI cI b0 qh qs qr gh gs gr a2 a3 ok ex hp _) (cwV 2 hts gL_asks_X4_serve rfl rfl rfl (by decide +kernel) ⟨Nat.le_of_ble_eq_true rfl, Nat.le_of_ble_eq_true rfl⟩) hP hD hS hA hK hN hXS hXH (wX4_nil ..) (fun u => (wX4_nil ..).symm) rfl rfl rfl rfl hl.1 (Nat.le_of_ble_eq_true rfl) ⟨Nat.le_of_ble_eq_true rfl, Nat.le_of_ble_eq_true rfl⟩ dL_asks_33 ?_ ?_
        · intro E ce q9 H locs hpx hP hD hS hce hcv hcl
          exact vx_outP (own := RL) hown hlk (fun z hz => (het z hz).elim) hce hcv hcl (fun t ht _ => ⟨(), trivial, ⟨hpx, by rw [ht]; exact hP, hD⟩, hS.F ht⟩) hS.2.2 (Nat.le_of_ble_eq_true rfl) (Nat.le_of_ble_eq_true rfl)
        · intro r u H locs hpo hP hD hS
          refine lv_goto (tgt := 119) hx hb dL_asks_36 (by decide) ?_
          refine vx_ret (W.widen (k := 4) (n := 24) (Nat.le_of_ble_eq_true rfl) (Nat.le_of_ble_eq_true rfl) ?_)
          exact W.iret hx hb hr (fun t ht _ => ⟨⟨_, u, rfl, hpo, by rw [ht]; exact hP, hD⟩, hS.F ht⟩) hS.2.2 dL_asks_119
    · have hp := hp.2 c
      refine lv_aload_n hx hb dL_asks_17 rfl (lv_at hl 0 rfl) ?_
      refine lv_iload_n hx hb dL_asks_18 rfl (lv_at hl 2 rfl) ?_
      refine tx_V (As := [.int a2]) (rest := []) (w1 := []) (w2 := []) (wsd := fun u : St × St × St => wX4 b0 qh qs qr cI u.1 u.2.1 u.2.2) ⟨hx, hb, hml, hown, hts⟩ (c_X4_left l hfl dC dI cI b0 qh qs qr gh gs gr a2 ok ex hp _) (cwV 1 hts gL_asks_X4_left rfl rfl rfl (by decide +kernel) ⟨Nat.le_of_ble_eq_true rfl, Nat.le_of_ble_eq_true rfl⟩) hP hD hS hA hK hN hXS hXH (wX4_nil ..) (fun u => (wX4_nil ..).symm) rfl rfl rfl rfl hl.1 (Nat.le_of_ble_eq_true rfl) ⟨Nat.le_of_ble_eq_true rfl, Nat.le_of_ble_eq_true rfl⟩ dL_asks_19 ?_ ?_
      · intro E ce q9 H locs hpx hP hD hS hce hcv hcl
        exact vx_outP (own := RL) hown hlk (fun z hz => (het z hz).elim) hce hcv hcl (fun t ht _ => ⟨(), trivial, ⟨hpx, by rw [ht]; exact hP, hD⟩, hS.F ht⟩) hS.2.2 (Nat.le_of_ble_eq_true rfl) (Nat.le_of_ble_eq_true rfl)
      · intro r u H locs hpo hP hD hS
        refine lv_goto (tgt := 119) hx hb dL_asks_22 (by decide) ?_
        refine vx_ret (W.widen (k := 4) (n := 24) (Nat.le_of_ble_eq_true rfl) (Nat.le_of_ble_eq_true rfl) ?_)
        exact W.iret hx hb hr (fun t ht _ => ⟨⟨_, u, rfl, hpo, by rw [ht]; exact hP, hD⟩, hS.F ht⟩) hS.2.2 dL_asks_119
  · have hp := hp.2 c
    refine lv_aload_n hx hb dL_asks_4 rfl (lv_at hl 0 rfl) ?_
    refine lv_iload_n hx hb dL_asks_5 rfl (lv_at hl 2 rfl) ?_
    refine tx_V (As := [.int a2]) (rest := []) (w1 := []) (w2 := []) (wsd := fun u : St × St × St => wX4 b0 qh qs qr cI u.1 u.2.1 u.2.2) ⟨hx, hb, hml, hown, hts⟩ (c_X4_leave l hfl dC dI cI b0 qh qs qr gh gs gr a2 ok ex hp _) (cwV 1 hts gL_asks_X4_leave rfl rfl rfl (by decide +kernel) ⟨Nat.le_of_ble_eq_true rfl, Nat.le_of_ble_eq_true rfl⟩) hP hD hS hA hK hN hXS hXH (wX4_nil ..) (fun u => (wX4_nil ..).symm) rfl rfl rfl rfl hl.1 (Nat.le_of_ble_eq_true rfl) ⟨Nat.le_of_ble_eq_true rfl, Nat.le_of_ble_eq_true rfl⟩ dL_asks_6 ?_ ?_
    · intro E ce q9 H locs hpx hP hD hS hce hcv hcl
      exact vx_outP (own := RL) hown hlk (fun z hz => (het z hz).elim) hce hcv hcl (fun t ht _ => ⟨(), trivial, ⟨hpx, by rw [ht]; exact hP, hD⟩, hS.F ht⟩) hS.2.2 (Nat.le_of_ble_eq_true rfl) (Nat.le_of_ble_eq_true rfl)
    · intro r u H locs hpo hP hD hS
      refine lv_goto (tgt := 119) hx hb dL_asks_9 (by decide) ?_
      refine vx_ret (W.widen (k := 4) (n := 24) (Nat.le_of_ble_eq_true rfl) (Nat.le_of_ble_eq_true rfl) ?_)
      exact W.iret hx hb hr (fun t ht _ => ⟨⟨_, u, rfl, hpo, by rw [ht]; exact hP, hD⟩, hS.F ht⟩) hS.2.2 dL_asks_119
def P_L_on (gh gs gr : St) (a1 a2 a3 a4 : Int32) (post : Int32 → St → St → St → Prop) : Prop := P_L_asks gh gs gr a1 a2 a3 a4 post (fun E => (E = E_i ∧ post (-11) gh gs gr) ∨ (E = E_s ∧ post (-13) gh gs gr))
theorem kL_on_i : (.classLink RL 45 "java/lang/IndexOutOfBoundsException" : Cond) ∈ wsL_on := by decide +kernel
theorem kL_on_s : (.classLink RL 47 "java/lang/IllegalStateException" : Cond) ∈ wsL_on := by decide +kernel
set_option maxRecDepth 100000 in
set_option maxHeartbeats 4000000 in
theorem c_L_on (l : Launch) (hfl : l.stackTraces = false) (dC : Nat → ClassId) (dI : Nat → Nat → Nat) (cI : ClassId) (b0 : Nat) (qh qs qr : Nat → Nat) (gh gs gr : St) (a1 a2 a3 a4 : Int32) (post : Int32 → St → St → St → Prop) (hp : P_L_on gh gs gr a1 a2 a3 a4 post) (sz : Nat) : Met l yL_on wsL_on { frames := 9, cells := 4, slots := 24, locals := 185 } (va_Pc [.ref b0, .int a1, .int a2, .int a3, .int a4] (tpS (dC, dI) vwCl [(cI, .int)] (wX4 b0 qh qs qr cI gh gs gr) sz)) (va_Qi (fun (r : Int32) (u : St × St × St) => post r u.1 u.2.1 u.2.2) (fun u t => wqB (dC, dI) vwCl (wX4 b0 qh qs qr cI u.1 u.2.1 u.2.2) (va_A (wX4 b0 qh qs qr cI gh gs gr) sz) t) (va_A (wX4 b0 qh qs qr cI gh gs gr) sz)) 4 24 (va_A (wX4 b0 qh qs qr cI gh gs gr) sz) := by
  refine tl_met (fun A => (va_Qi (fun (r : Int32) (u : St × St × St) => post r u.1 u.2.1 u.2.2) (fun u t => wqB (dC, dI) vwCl (wX4 b0 qh qs qr cI u.1 u.2.1 u.2.2) A t) A)) (cc := cL_on) (maxL := 6) (ret := (some .int)) (by decide) rfl (Nat.le_of_ble_eq_true rfl) ?_
  intro p e s m below meth c A hx hb hml hr hlk htab hts hown hP hK hN hD hA hXS hXH ls hl
  have hS : va_S A s.heap s.heap [] := va_S.rf
  have hl : lv_has ls 6 [(0, .ref b0), (1, .int a1), (2, .int a2), (3, .int a3), (4, .int a4)] := hl
  refine lv_aload_n hx hb dL_on_0 rfl (lv_at hl 0 rfl) ?_
  refine lv_iload_n hx hb dL_on_1 rfl (lv_at hl 1 rfl) ?_
  refine lv_iload_n hx hb dL_on_2 rfl (lv_at hl 2 rfl) ?_
  refine lv_iload_n hx hb dL_on_3 rfl (lv_at hl 3 rfl) ?_
  refine lv_iload hx hb dL_on_4 (lv_at hl 4 rfl) ?_
  refine px_S (As := [.ref b0, .int a1, .int a2, .int a3, .int a4]) (rest := []) (w1 := []) (w2 := []) (wsd := fun u : St × St × St => wX4 b0 qh qs qr cI u.1 u.2.1 u.2.2) ⟨hx, hb, hml, hown, hts⟩ (c_L_asks l hfl dC dI cI b0 qh qs qr gh gs gr a1 a2 a3 a4 post _ hp _) (va_cwS 5 hts gL_on_L_asks rfl rfl rfl (by decide +kernel) ⟨Nat.le_of_ble_eq_true rfl, Nat.le_of_ble_eq_true rfl⟩) hP hD hS hA hK hN hXS hXH (wX4_nil ..) (fun u => (wX4_nil ..).symm) rfl rfl hl.1 (Nat.le_of_ble_eq_true rfl) ⟨Nat.le_of_ble_eq_true rfl, Nat.le_of_ble_eq_true rfl⟩ dL_on_6 ?_ ?_
  · intro E ce q9 H locs hpx hP hD hS hce hcv hcl
    rcases hpx with ⟨rfl, hek⟩ | ⟨rfl, hek⟩
    · refine vx_catch (name := "java/lang/IndexOutOfBoundsException") hown [] (⟨0, 9, 10, 45⟩ : ExceptionTableEntry) [(⟨0, 9, 15, 47⟩ : ExceptionTableEntry)] (htab.trans rfl) (fun z hz => nomatch hz) rfl (by decide) (hts _ kL_on_i) (va_Nw.use rfl hXS.2.2.2.1) hce hcv hcl ?_
      refine lv_astore (lv' := [(5, .ref q9), (0, .ref b0), (1, .int a1), (2, .int a2), (3, .int a3), (4, .int a4)]) hx hb dL_on_10 hl (by decide) rfl (fun ls hl => ?_)
      refine lv_bipush (v := -11) hx hb dL_on_12 (by decide) ?_
      refine W.widen (k := 4) (n := 24) (Nat.le_of_ble_eq_true rfl) (Nat.le_of_ble_eq_true rfl) ?_
      exact W.iret hx hb hr (fun t ht _ => ⟨⟨_, (gh, gs, gr), rfl, hek, by rw [ht]; exact hP, hD⟩, hS.F ht⟩) hS.2.2 dL_on_14
    · refine vx_catch (name := "java/lang/IllegalStateException") hown [(⟨0, 9, 10, 45⟩ : ExceptionTableEntry)] (⟨0, 9, 15, 47⟩ : ExceptionTableEntry) [] (htab.trans rfl) (fun z hz => by rw [List.mem_singleton] at hz; subst hz; exact Or.inr ⟨by decide, E_i, hts _ kL_on_i, hXS.2.2.2.2.2.2.2.1⟩) rfl (by decide) (hts _ kL_on_s) (va_Nw.use rfl hXS.2.2.2.2.2.1) hce hcv hcl ?_
      refine lv_astore (lv' := [(5, .ref q9), (0, .ref b0), (1, .int a1), (2, .int a2), (3, .int a3), (4, .int a4)]) hx hb dL_on_15 hl (by decide) rfl (fun ls hl => ?_)
      refine lv_bipush (v := -13) hx hb dL_on_17 (by decide) ?_
      refine W.widen (k := 4) (n := 24) (Nat.le_of_ble_eq_true rfl) (Nat.le_of_ble_eq_true rfl) ?_
      exact W.iret hx hb hr (fun t ht _ => ⟨⟨_, (gh, gs, gr), rfl, hek, by rw [ht]; exact hP, hD⟩, hS.F ht⟩) hS.2.2 dL_on_19
  · intro r u H locs hpo hP hD hS
    refine W.widen (k := 4) (n := 24) (Nat.le_of_ble_eq_true rfl) (Nat.le_of_ble_eq_true rfl) ?_
    exact W.iret hx hb hr (fun t ht _ => ⟨⟨_, u, rfl, hpo, by rw [ht]; exact hP, hD⟩, hS.F ht⟩) hS.2.2 dL_on_9
