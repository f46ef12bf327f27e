/-! THE BEGINNING, AND THE END -/
theorem fl0 (n k : Nat) : (fill n 0 k).toInt = 0 := by
  unfold fill
  split <;> rfl
theorem flm {n k : Nat} (h : k < n) : (fill n (-1) k).toInt = -1 := by
  unfold fill
  rw [if_pos h]
  rfl
def i0 (h : St) : ISt := fun j k => (h j k).toInt
theorem i0_z (h : St) : h = zS (i0 h) := by
  funext j k
  exact (zI_of (h j k)).symm
theorem law_0 : LawI (i0 iniX0) (i0 iniX3) (i0 iniX1) (i0 (fun _ _ => 0)) 0 0 0 0 := by
  have h0 : ∀ k, i0 iniX0 0 k = 0 := fun _ => rfl
  have h2 : ∀ k, k < 10 → i0 iniX0 2 k = -1 := fun k hk => flm hk
  have h5 : ∀ k, i0 iniX0 5 k = 0 := fun k => fl0 30 k
  have h6 : ∀ k, i0 iniX0 6 k = 0 := fun k => fl0 30 k
  have s0 : ∀ k, i0 iniX3 0 k = 0 := fun _ => rfl
  have s5 : ∀ k, k < 16 → i0 iniX3 5 k = -1 := fun k hk => flm hk
  have s6 : ∀ k, k < 16 → i0 iniX3 6 k = -1 := fun k hk => flm hk
  have s7 : ∀ k, k < 16 → i0 iniX3 7 k = -1 := fun k hk => flm hk
  have s8 : ∀ k, i0 iniX3 8 k = 0 := fun k => fl0 64 k
  have r1 : ∀ k, i0 iniX1 1 k = 0 := fun k => fl0 8 k
  have a0 : ∀ j k, i0 (fun _ _ => 0) j k = 0 := fun _ _ => rfl
  refine ⟨⟨?_, ?_, ?_, ?_, ?_, ?_, ?_, ?_, ?_, ?_, ?_⟩, ⟨?_, ?_, ?_, ?_, ?_, ?_, ?_, ?_, ?_, ?_, ?_, ?_⟩, ?_, ⟨?_, ?_, ?_⟩, ⟨?_, ?_, ?_⟩, ⟨?_, ?_, ?_⟩, ?_⟩
  · rw [h0]; omega
  · rw [h0]; exact ⟨rfl, by omega⟩
  · rw [h0]; exact ⟨rfl, by omega⟩
  · intro t ht; rw [h2 t ht]; omega
  · intro t ht; omega
  · intro t _ ht; exact h2 t ht
  · intro t ht; omega
  · intro t _; rw [h5]; omega
  · intro t _ _; exact h6 t
  · intro g _ _ t ht; rw [h2 t ht]; omega
  · intro t ht; omega
  · rw [s0]; exact ⟨rfl, by omega⟩
  · rw [s0]; exact ⟨rfl, by omega⟩
  · intro t ht; omega
  · intro t ht; omega
  · intro t ht; omega
  · intro t k ht; omega
  · intro t _ ht; exact ⟨s5 t ht, s6 t ht, s7 t ht⟩
  · intro t _ _; exact s8 t
  · intro c d hc; omega
  · intro c hc; omega
  · intro c hc; omega
  · intro c k hc; omega
  · intro c hc; omega
  · intro t _; rw [r1]; omega
  · intro t _ _; exact r1 t
  · intro t k _ hk; rw [r1] at hk; omega
  · intro t ht; omega
  · intro t ht; omega
  · intro g _; rw [a0, h6, if_neg (by omega)]
  · intro t ht; omega
  · intro t ht; omega
  · intro t ht; omega
  · intro t _; rw [a0, r1]
theorem law_all {L : Nat} (hL : L ≤ 260) (xs : Nat → Int32) : P_L_law L xs iniX0 iniX3 iniX1 (fun _ _ => 0) := by
  have z := t_L_law L (i0 iniX0) (i0 iniX3) (i0 iniX1) (i0 (fun _ _ => 0)) hL xs (q_law L hL law_0 rfl)
  rw [← i0_z, ← i0_z, ← i0_z, ← i0_z] at z
  exact z
theorem whole_start {p : Program} {e : Env} {s : State} {m : MethodId} {below : List Frame} {meth : Method} {c : Code} (l : Launch) (hflags : l.flags = flags0) {b L : Nat} {xs : Nat → Int32} (hL : L ≤ 260) (C0 : lw_At p s m meth c b L xs) : W p l e room_1 s m #[Value.ref b] below meth c s.heap [] 0 0 (lw_Z below #[Value.ref b] s) (entryFrame m ([Value.ref b] : List Value).toArray 27) :=
  start_of l hflags hL C0 (law_all hL xs)
set_option maxHeartbeats 4000000 in
theorem lw_walk (l : Launch) (hflags : l.flags = flags0) (b : Addr) (xs : List Int32) : MetFree l x (headSpec (Jvm.Cond.code x code maxLocals ret :: tables_1) room_1) (lw_P b xs) (fun _ _ _ _ _ => True) lw_Q := by
  refine MetFree.of_bodyS (code := code) (maxLocals := maxLocals) (ret := ret) (by decide) ?_ ?_
  · intro args s m h hn
    obtain ⟨meth, c, h1, h2, h3, h4, h5, h6, -, -⟩ := Cond.code_spec hn (atoms_spec (ws := Jvm.Cond.code x code maxLocals ret :: tables_1) h _ List.mem_cons_self)
    exact ⟨meth, c, h1, h2, h3, h4, h5, h6⟩
  · intro p e s m args below meth c s₁ B hml0 hP _
    obtain ⟨rfl, hx, hbd, hgv⟩ := hP
    obtain ⟨scr, harrAt, hlist, hof, hsmall⟩ := hx
    obtain ⟨hcb, hkn, -, -⟩ := State.arrayAt?_spec harrAt
    have hown : s.vm.findClass R_law = some m.cls := findClass_of_methodNamed B.named
    have hts0 : ∀ c ∈ (Jvm.Cond.code x code maxLocals ret :: tables_1), c.before #[Value.ref b] s = true := atoms_spec (ws := Jvm.Cond.code x code maxLocals ret :: tables_1) B.pre
    have hts : ∀ w ∈ lw_tbl, w.before #[Value.ref b] s = true := k2_hts_sels lw_privs (fun w hw => hts0 w (List.mem_cons_of_mem _ hw)) lw_privs_ok
    have hml : c.maxLocals = 27 := B.maxLocals_eq (hts0 _ List.mem_cons_self)
    have X₀ : Stand p l e room_1 s m #[Value.ref b] below meth c s₁ [] 0 0 := Stand.of_body B
    have hh0 : s₁.heap = s.heap := by rw [B.state]; rfl
    have hsz : scr.slots.size = xs.length := by rw [← Array.length_toList, hlist, List.length_map]
    have hval : ∀ j : Nat, j < xs.length → scr.slots[j]? = some (.int (xs.getD j 0)) := fun j hj => by
      rw [← Array.getElem?_toList, hlist]
      simp [hj]
    have hbl : b < s.heap.size := (Array.getElem?_eq_some_iff.mp hcb).1
    have hX : va_X b xs.length (fun j => xs.getD j 0) s s.heap := ⟨scr, hcb, hof, hkn, hsz, hval⟩
    have K : W p l e room_1 s m #[Value.ref b] below meth c s₁.heap [] 0 0 (lw_Z below #[Value.ref b] s) (entryFrame m ([Value.ref b] : List Value).toArray 27) := by
      rw [hh0]
      exact whole_start l hflags hbd ⟨B.exec, B.bytes, B.returns, hml, hown, hts, hX, hbl, B.notSynchronized, hgv⟩
    obtain ⟨t, a1, o, b1, b2, b3⟩ := K s₁ rfl X₀
    exact ⟨t, o, a1, b1, b2, b3⟩
theorem lw_pre_spec {args : Array Value} {s : State} (h : (Jvm.Cond.and given_1 narrow_1).before args s = true) (hr : rest_1_c.before args s = true) : ∃ (b : Addr) (xs : List Int32), lw_P b xs args s := by
  have hs := flat_of_before _ h
  have hq := flat_of_before _ hr
  have hc : (Cond.count 1).before args s = true := hs _ (by decide +kernel)
  have harr : (Cond.arrayOf (.arg 0) .int).before args s = true := hs _ (by decide +kernel)
  have hle : (Cond.le (.length (.arg 0)) (.int 260)).before args s = true := hs _ (by decide +kernel)
  have hlen : (Cond.isInt (.length (.arg 0))).before args s = true := hq _ (by decide +kernel)
  have hall : (Cond.all (.arg 0) (.isInt (.elem (.arg 0) (.index 0)))).before args s = true := hq _ (by decide +kernel)
  obtain ⟨b, xs, hb, hx⟩ := State.ints_of_pre rfl harr hlen hall
  have hsm : xs.length < 2 ^ 31 := hx.choose_spec.2.2.2
  have hev : (Term.length (.arg 0)).eval args s none [] s = some (.int xs.length.toInt32) := hx.length_eval hb
  have hv := Cond.le_ints hev (show (Term.int 260).eval args s none [] s = some (.int 260) from rfl)
  have hd : xs.length.toInt32 ≤ 260 := by
    simpa [Cond.before, Cond.holds, hv] using hle
  have hN : xs.length ≤ 260 := (Int32.ofNat_le_ofNat hsm (by decide)).mp (show Int32.ofNat xs.length ≤ Int32.ofNat 260 from hd)
  exact ⟨b, xs, Cond.one_arg hc (show args[0]? = some (.ref b) from hb), hx, hN, h⟩
theorem lw_comes (l : Launch) (hflags : l.flags = flags0) : Comes l x (Jvm.Cond.code x code maxLocals ret :: tables_1) room_1 (fun tb e args s => Calls_1 tb e args s ∧ rest_1 tb e args s ∧ Pre_1 tb e args s)
    (fun _ _ args s o t => lw_Q args s o t) := by
  intro p e ha hc hk s m args below hf hfit hheap happ hpre
  obtain ⟨b, xs, hP⟩ := lw_pre_spec hpre.2.2 hpre.2.1
  obtain ⟨k, o, h1, h2, h3, hQ⟩ := lw_walk l hflags b xs p e ha hc hk s m args below hf ((Spec.applies_iff_loose hf).mp happ).1 hP trivial
  exact ⟨k, o, h1, h2, h3, hQ⟩
theorem lw_frame {s t : State} {o : Outcome} {args : Array Value} (h : Framed s o t [] 673973 7079910) :
    Framed s o t (fieldLocs frame_1_writes args s ++ arrayLocs frame_1_arrays args s ++ staticLocs frame_1_statics s) 673973 7079910 := h
theorem lw_limb (L : Cond) (hL : ∀ (args : Array Value) (s t : State), L.after args s (.returned (some (.int 1))) t = true) :
    ArmFor flags0 classFile x code maxLocals ret World_1 tables_1 room_1 Calls_1 rest_1 Pre_1
      (fun tb e a s o t => postC L tb e a s o t ∧ Framed s o t (fieldLocs frame_1_writes a s ++ arrayLocs frame_1_arrays a s ++ staticLocs frame_1_statics s) 673973 7079910) := by
  intro l hflags _ _ p e ha hc hk s m args below hf hfit hheap happ hpre
  obtain ⟨k, o, h1, h2, h3, rfl, hF⟩ := lw_comes l hflags p e ha hc hk s m args below hf hfit hheap happ hpre
  exact ⟨k, _, h1, h2, h3, hL args s _, lw_frame hF⟩
theorem i_vc : Claimed_1_1 ∧ Claimed_1_2 := ⟨lw_limb limb_1_1 (fun args s t => by simp [limb_1_1, Cond.after, Cond.holds, Cond.value]), lw_limb limb_1_2 (fun args s t => Cond.after_iff.mpr (by
  first | (rw [show limb_1_2 = Cond.eq .result (.int 1) from rfl, Cond.eq_ints (x := 1) (y := 1) rfl rfl]; simp; done) | (simp [limb_1_2, Cond.value, Term.eval]; done)))⟩

