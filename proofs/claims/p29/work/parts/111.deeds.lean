/-! THE LAW'S DEEDS: groups come, minutes pass, groups leave -/
set_option maxHeartbeats 4000000 in
theorem br_arrive {V771 : Nat → ISt → ISt → ISt → ISt → Int → Int → Int → Int → Int → Int → Int → Int → Int → Int → Int → Int → Int → Prop} {V987 : Nat → ISt → ISt → ISt → ISt → Int → Int → Int → Int → Int → Int → Int → Int → Int → Int → Int → Int → Int → Prop} {V806 : Nat → ISt → ISt → ISt → ISt → Int → Int → Int → Int → Int → Int → Int → Int → Int → Int → Int → Prop} {V866 : Nat → ISt → ISt → ISt → ISt → Int → Int → Int → Int → Int → Int → Int → Int → Int → Int → Prop} {V876 : Nat → ISt → ISt → ISt → ISt → Int → Int → Int → Int → Int → Int → Int → Int → Int → Int → Int → Prop} {V895 : Nat → ISt → ISt → ISt → ISt → Int → Int → Int → Int → Int → Int → Int → Int → Int → Int → Int → Prop} {V903 : Nat → ISt → ISt → ISt → ISt → Int → Int → Int → Int → Int → Int → Int → Int → Prop} {V904 : Nat → ISt → ISt → ISt → ISt → Int → Int → Int → Int → Int → Int → Int → Int → Int → Prop} {V919 : Nat → ISt → ISt → ISt → ISt → Int → Int → Int → Int → Int → Int → Int → Int → Int → Int → Int → Prop} {V1770 : Nat → ISt → ISt → ISt → ISt → Int → Int → Int → Int → Int → Int → Int → Int → Prop} (k771 : ∀ (k : Nat) (hh hs hr ha : ISt) (x9 x10 x11 x12 x13 x14 x15 x17 x18 x19 x20 x21 x22 : Int), (inR x18 ∧ (((6 : Int) ≤ x18 → (V987 k hh hs hr ha x9 x10 x11 x12 x13 x14 x15 x17 x18 x19 x20 x21 x22)) ∧ (¬ (6 : Int) ≤ x18 → (inR x10 ∧ (((30 : Int) ≤ x10 → (V987 k hh hs hr ha x9 x10 x11 x12 x13 x14 x15 x17 x18 x19 x20 x21 x22)) ∧ (¬ (30 : Int) ≤ x10 → ((0 ≤ x17 ∧ x17 ≤ 2147483647) ∧ (0 ≤ (3 : Int) ∧ (3 : Int) < 32) ∧ (∀ z55 : Int, 0 ≤ z55 → z55 ≤ x17 → (∀ z56 : Int, 0 ≤ z56 → z56 ≤ 1 → (inR z56 ∧ ((¬ z56 = (0 : Int) → (V806 k hh hs hr ha x9 x10 x11 x12 x14 x15 x17 (12 : Int) z55 (1 : Int) x10)) ∧ (z56 = (0 : Int) → (V806 k hh hs hr ha x9 x10 x11 x12 x14 x15 x17 (4 : Int) z55 (1 : Int) x10))))))))))))) → V771 k hh hs hr ha x9 x10 x11 x12 x13 x14 x15 x17 x18 x19 x20 x21 x22) (k806 : ∀ (k : Nat) (hh hs hr ha : ISt) (x9 x10 x11 x12 x14 x15 x17 t0 t1 t2 t3 : Int), ((0 ≤ t1 ∧ t1 ≤ 2147483647) ∧ (0 < t0 ∧ t0 ≤ 2147483647) ∧ (∀ z88 : Int, 0 ≤ z88 → z88 < t0 → z88 ≤ t1 → ((0 ≤ t3 ∧ t3 < 30) ∧ (∀ h89 : ISt, h89 = iset ha 1 t3.toNat (t2 + z88) → ((0 ≤ x10 ∧ x10 < 30) ∧ (k ≤ 10000 ∧ ∃ r90 : Int, Qn_X4_waste hh hs hr (h89 1 x10.toNat) r90 ∧ (k ≤ 10000 ∧ ∃ r91 : Int, Q_X4_waiting hh hs hr r91 ∧ ((0 ≤ x10 ∧ x10 < 30) ∧ ((0 ≤ x17 ∧ x17 ≤ 2147483647) ∧ (0 ≤ (7 : Int) ∧ (7 : Int) < 32) ∧ (∀ z92 : Int, 0 ≤ z92 → z92 ≤ x17 → ((0 ≤ z92 ∧ z92 ≤ 2147483647) ∧ (0 < (120 : Int) ∧ (120 : Int) ≤ 2147483647) ∧ (∀ z93 : Int, 0 ≤ z93 → z93 < (120 : Int) → z93 ≤ z92 → (k + 1 ≤ 10000 ∧ Q_L_on hh hs hr (8 : Int) (h89 1 x10.toNat) ((10 : Int) + z93) (0 : Int) (fun (r94 : Int) (hh95 hs96 hr97 : ISt) => inR r94 ∧ inR x10 ∧ ((¬ r94 = x10 → (V903 (k + 1) hh95 hs96 hr97 h89 x9 x10 x11 x12 x14 x15 x17 r90)) ∧ (r94 = x10 → (k + 1 ≤ 10000 ∧ ∃ r98 : Int, Qn_X4_tableOf hh95 hs96 hr97 x10 r98 ∧ (inR r98 ∧ ((r98 < (0 : Int) → (V866 (k + 1) hh95 hs96 hr97 h89 x9 x10 x11 x12 x14 x15 x17 r90 r91 (0 : Int))) ∧ (¬ r98 < (0 : Int) → (V866 (k + 1) hh95 hs96 hr97 h89 x9 x10 x11 x12 x14 x15 x17 r90 r91 (1 : Int)))))))))))))))))))))) → V806 k hh hs hr ha x9 x10 x11 x12 x14 x15 x17 t0 t1 t2 t3) (k866 : ∀ (k : Nat) (hh hs hr ha : ISt) (x9 x10 x11 x12 x14 x15 x17 x23 x24 t0 : Int), (inR x23 ∧ ((x23 < (0 : Int) → (V876 k hh hs hr ha x9 x10 x11 x12 x14 x15 x17 x23 x24 (0 : Int) t0)) ∧ (¬ x23 < (0 : Int) → (V876 k hh hs hr ha x9 x10 x11 x12 x14 x15 x17 x23 x24 (1 : Int) t0)))) → V866 k hh hs hr ha x9 x10 x11 x12 x14 x15 x17 x23 x24 t0) (k876 : ∀ (k : Nat) (hh hs hr ha : ISt) (x9 x10 x11 x12 x14 x15 x17 x23 x24 t0 t1 : Int), (inR t1 ∧ inR t0 ∧ ((¬ t1 = t0 → (V903 k hh hs hr ha x9 x10 x11 x12 x14 x15 x17 x23)) ∧ (t1 = t0 → (k ≤ 10000 ∧ ∃ r135 : Int, Q_X4_waiting hh hs hr r135 ∧ (inR x23 ∧ (((0 : Int) ≤ x23 → (V895 k hh hs hr ha x9 x10 x11 x12 x14 x15 x17 x23 (0 : Int) x24 r135)) ∧ (¬ (0 : Int) ≤ x23 → (V895 k hh hs hr ha x9 x10 x11 x12 x14 x15 x17 x23 (1 : Int) x24 r135)))))))) → V876 k hh hs hr ha x9 x10 x11 x12 x14 x15 x17 x23 x24 t0 t1) (k895 : ∀ (k : Nat) (hh hs hr ha : ISt) (x9 x10 x11 x12 x14 x15 x17 x23 t0 t1 t2 : Int), (inR t2 ∧ inR (t1 + t0) ∧ ((¬ t2 = (t1 + t0) → (V903 k hh hs hr ha x9 x10 x11 x12 x14 x15 x17 x23)) ∧ (t2 = (t1 + t0) → (V904 k hh hs hr ha x9 x10 x11 x12 x14 x15 x17 x23 (1 : Int))))) → V895 k hh hs hr ha x9 x10 x11 x12 x14 x15 x17 x23 t0 t1 t2) (k904 : ∀ (k : Nat) (hh hs hr ha : ISt) (x9 x10 x11 x12 x14 x15 x17 x23 t0 : Int), (k ≤ 10000 ∧ ∃ r134 : Int, Qn_X4_tablesOf hh hs hr x10 r134 ∧ (V919 k hh hs hr ha x9 x10 x11 x12 t0 x14 x15 x17 x23 ((1 : Int) - r134) (0 : Int))) → V904 k hh hs hr ha x9 x10 x11 x12 x14 x15 x17 x23 t0) (k919 : ∀ (k : Nat) (hh hs hr ha : ISt) (x9 x10 x11 x12 x13 x14 x15 x17 x23 x25 x26 : Int), (k ≤ 10000 ∧ ∃ r146 : Int, Qn_X4_tablesOf hh hs hr x10 r146 ∧ (inR x26 ∧ inR r146 ∧ ((r146 ≤ x26 → (inR x13 ∧ ((x13 = (0 : Int) → (V1770 k hh hs hr ha x9 (x10 + (1 : Int)) x11 x12 (0 : Int) x14 x15 x17)) ∧ (¬ x13 = (0 : Int) → (inR x23 ∧ ((x23 < (0 : Int) → (V1770 k hh hs hr ha x9 (x10 + (1 : Int)) x11 x12 (1 : Int) x14 x15 x17)) ∧ (¬ x23 < (0 : Int) → ((0 ≤ x10 ∧ x10 < 30) ∧ (inR x25 ∧ inR ((ha 1 x10.toNat) + x23) ∧ ((¬ x25 = ((ha 1 x10.toNat) + x23) → (V1770 k hh hs hr ha x9 (x10 + (1 : Int)) x11 x12 (0 : Int) x14 x15 x17)) ∧ (x25 = ((ha 1 x10.toNat) + x23) → (V1770 k hh hs hr ha x9 (x10 + (1 : Int)) x11 x12 (1 : Int) x14 x15 x17)))))))))))) ∧ (¬ r146 ≤ x26 → (k ≤ 10000 ∧ ∃ r147 : Int, Qn_X4_tableOf hh hs hr x10 r147 ∧ ((0 ≤ (r147 + x26) ∧ (r147 + x26) < 10) ∧ (V919 k hh hs hr ha x9 x10 x11 x12 x13 x14 x15 x17 x23 (x25 + (ha 0 (r147 + x26).toNat)) (x26 + (1 : Int))))))))) → V919 k hh hs hr ha x9 x10 x11 x12 x13 x14 x15 x17 x23 x25 x26) {k0 u : Nat} {x14 y : Int} (hE : EndV V1770 k0 x14 y u) (hk0 : k0 ≤ 9000) (hy : 0 ≤ y ∧ y ≤ 268435455) {k : Nat} {hh hs hr ha : ISt} {T A n G : Nat} (L : LawI hh hs hr ha T A n G) (hk : k ≤ k0) (E : Early u hh T A n) (u4 : 4 ≤ u) {d g t c z : Int} (hd : Deed u d)
    (h987 : 6 ≤ d ∨ 30 ≤ G → V987 k hh hs hr ha T G A n 1 x14 u y d g t c z) : V771 k hh hs hr ha T G A n 1 x14 u y d g t c z := by
  obtain ⟨li, ls, lt, lb, lh, lss, lr⟩ := L
  have bG := li.2.2.1
  have bT := li.2.1
  have bd : 0 ≤ d ∧ d ≤ 15 := ⟨hd.1, hd.2.1⟩
  refine k771 _ _ _ _ _ _ _ _ _ _ _ _ _ _ _ _ _ _ ⟨(by unfold inR; omega), fun c => h987 (Or.inl c), fun c => ⟨(by unfold inR; omega), fun c2 => h987 (Or.inr (by omega)), fun c2 => ?_⟩⟩
  have hG : G < 30 := by omega
  have iG : (G : Int).toNat = G := Int.toNat_natCast G
  have body : ∀ (t0 z55 : Int), (t0 = 12 ∨ t0 = 4) → 0 ≤ z55 → z55 ≤ y → V806 k hh hs hr ha T G A n x14 u y t0 z55 1 G := by
    intro t0 z55 h0 a55 b55
    refine k806 _ _ _ _ _ _ _ _ _ _ _ _ _ _ _ _ ⟨⟨by omega, by omega⟩, ⟨by omega, by omega⟩, fun z88 a88 b88 c88 => ⟨⟨by omega, by omega⟩, fa ?_⟩⟩
    rw [iG]
    have hv : iset ha 1 G ((1 : Int) + z88) 1 G = 1 + z88 := u_eq _ _ _
    rw [hv]
    obtain ⟨p, ep⟩ : ∃ p : Int, p = 1 + z88 := ⟨_, rfl⟩
    rw [← ep]
    have hp : 1 ≤ p ∧ p ≤ 12 := by omega
    have cb := cnt_b (hh 6) 0 G 0
    have g0 : hh 6 G = 0 := li.2.2.2.2.2.2.2.2.1 G (Nat.le_refl _) hG
    have sits' : ∀ h' : ISt, (∀ x : Nat, x ≠ G → h' 6 x = hh 6 x) → SitsI h' hs n := by
      intro h' he x hx h
      have q := lt x hx h
      have b := ls.2.2.2.2.1 x hx
      rw [he _ (fun e => by rw [e] at q; omega)]
      exact q
    obtain ⟨r, hw, _⟩ := wst_ex hh bT.2 p
    have rb := wst_b li hp.1 hw
    refine ⟨⟨by omega, by omega⟩, by omega, r, n_waste li hp hw, by omega, _, n_waiting li, ⟨by omega, by omega⟩, ⟨by omega, by omega⟩, ⟨by omega, by omega⟩, fun z92 a92 b92 => ⟨⟨by omega, by omega⟩, ⟨by omega, by omega⟩, fun z93 a93 b93 c93 => ⟨by omega, ?_⟩⟩⟩
    obtain ⟨h', q1, q2, q3, q4, q5, q6, r', q7, q8⟩ := welcome_ex li hG hp (mi := 10 + z93) (by omega)
    have er : r' = r := wst_u q7 hw
    subst er
    have cb' := cnt_b (h' 6) 0 (G + 1) 0
    have rows' : h' 6 G ≠ 2 → RowsH h' (iset ha 1 G p) T (G + 1) := by
      intro h2
      refine ⟨fun x hx => ?_, fun x hx => ?_, fun x hx => ?_⟩
      · rw [q4]; exact lh.1 x hx
      · show iupd (ha 1) G p x = h' 3 x
        rw [q5]
        by_cases e : x = G
        · rw [e, u_eq, u_eq]
        · rw [u_ne e, u_ne e]
          exact lh.2.1 x (by omega)
      · show ha 2 x = _
        rw [lh.2.2 x hx]
        by_cases e : x = G
        · rw [e, if_neg h2, if_neg (by omega)]
        · rw [q3 x e]
    have fin : h' 6 G ≠ 2 → V1770 (k + 1) h' hs hr (iset ha 1 G p) T ((G : Int) + 1) A n 1 x14 u y := by
      intro h2
      have zz := hE (k + 1) h' hs hr (iset ha 1 G p) T A n (G + 1) ⟨q2, ls, sits' h' q3, lb, rows' h2, lss, lr⟩ (by omega) (E.more (by omega) (by omega) (by omega) (fun h => by omega) (by omega))
      rw [show ((G + 1 : Nat) : Int) = (G : Int) + 1 by omega] at zz
      exact zz
    refine on_arrive li hG hp (by omega) q1 ⟨(by unfold inR; omega), (by unfold inR; omega), nf rfl ⟨by omega, _, n_tableOf q2 (by omega), ?_⟩⟩
    have n2 := n_tablesOf (hs := hs) (hr := hr) q2 (by omega : G < G + 1)
    have n1 := n_tableOf (hs := hs) (hr := hr) q2 (by omega : G < G + 1)
    have nw := n_waiting (hs := hs) (hr := hr) q2
    have a1 : iset ha 1 G p 1 G = p := u_eq _ _ _
    rcases q8 with ⟨e1, e2, e3⟩ | ⟨e1, e2, e3, f, m, f1, f2, f3, f4⟩
    · obtain ⟨w1, w2⟩ := row_none q2 (by omega : G < 30) (by omega)
      rw [w1] at n1 ⊢
      rw [w2] at n2
      rw [e3] at nw
      have v919 : V919 (k + 1) h' hs hr (iset ha 1 G p) T G A n 1 x14 u y r' ((1 : Int) - 0) 0 := k919 _ _ _ _ _ _ _ _ _ _ _ _ _ _ _ _ ⟨by omega, 0, n2, R0, R0, bt (by omega) ⟨R1, bf n10 ⟨(by unfold inR; omega), bt (by omega) (fin (by omega))⟩⟩⟩
      have v904 : V904 (k + 1) h' hs hr (iset ha 1 G p) T G A n x14 u y r' 1 := k904 _ _ _ _ _ _ _ _ _ _ _ _ _ _ ⟨by omega, 0, n2, v919⟩
      have v895 : V895 (k + 1) h' hs hr (iset ha 1 G p) T G A n x14 u y r' 1 (cnt (hh 6) 0 G 0) (cnt (hh 6) 0 G 0 + 1) := k895 _ _ _ _ _ _ _ _ _ _ _ _ _ _ _ _ ⟨(by unfold inR; omega), (by unfold inR; omega), nf rfl v904⟩
      exact ⟨(by unfold inR; omega), bt (by omega) (k866 _ _ _ _ _ _ _ _ _ _ _ _ _ _ _ ⟨(by unfold inR; omega), bt (by omega) (k876 _ _ _ _ _ _ _ _ _ _ _ _ _ _ _ _ ⟨R0, R0, nf rfl ⟨by omega, _, nw, (by unfold inR; omega), bf (by omega) v895⟩⟩)⟩)⟩
    · obtain ⟨f', m', w1, w2, w3, w4, w5, w6⟩ := row_sits q2 (by omega : G < G + 1) e2
      have same : ∀ x : Nat, x < T → ((f' ≤ x ∧ x < f' + m') ↔ (f ≤ x ∧ x < f + m)) := fun x hx => (w5 x hx).symm.trans (f3 x hx)
      have s1 := same f (by omega)
      have s2 := same f' (by omega)
      have s3 := same (f + m - 1) (by omega)
      have s4 := same (f' + m' - 1) (by omega)
      have ef : f' = f := by omega
      have em : m' = m := by omega
      subst ef
      subst em
      rw [w1] at n1 ⊢
      rw [w2] at n2
      rw [e3] at nw
      have loop : ∀ (j x : Nat), x + j = m' → V919 (k + 1) h' hs hr (iset ha 1 G p) T G A n 1 x14 u y r' ((1 : Int) - m' + ssum (hh 1) f' x) x := by
        intro j
        induction j with
        | zero =>
          intro x hx
          have hx : x = m' := hx
          subst hx
          have sb := ssum_b (s := hh 1) (n := T) li.2.2.2.2.1 f' x (by omega)
          refine k919 _ _ _ _ _ _ _ _ _ _ _ _ _ _ _ _ ⟨by omega, _, n2, (by unfold inR; omega), (by unfold inR; omega), bt (by omega) ⟨R1, bf n10 ⟨(by unfold inR; omega), bf (by omega) ⟨⟨by omega, by omega⟩, ?_⟩⟩⟩⟩
          rw [iG, a1]
          exact ⟨(by unfold inR; omega), (by unfold inR; omega), nf (by omega) (fin (by omega))⟩
        | succ j ih =>
          intro x hx
          have zz := ih (x + 1) (by omega)
          have ix : ((f' : Int) + (x : Int)).toNat = f' + x := by omega
          refine k919 _ _ _ _ _ _ _ _ _ _ _ _ _ _ _ _ ⟨by omega, _, n2, (by unfold inR; omega), (by unfold inR; omega), bf (by omega) ⟨by omega, _, n1, ⟨by omega, by omega⟩, ?_⟩⟩
          rw [ix]
          have a0 : iset ha 1 G p 0 (f' + x) = hh 1 (f' + x) := lh.1 (f' + x) (by omega)
          rw [a0]
          have es : (1 : Int) - m' + ssum (hh 1) f' (x + 1) = ((1 : Int) - m' + ssum (hh 1) f' x) + hh 1 (f' + x) := by
            show _ + (ssum (hh 1) f' x + hh 1 (f' + x)) = _
            omega
          rw [es, show ((x + 1 : Nat) : Int) = (x : Int) + 1 by omega] at zz
          exact zz
      have l0 := loop m' 0 (by omega)
      have z0 : (1 : Int) - m' + ssum (hh 1) f' 0 = 1 - m' := by
        show (1 : Int) - m' + 0 = _
        omega
      rw [z0] at l0
      have v904 : V904 (k + 1) h' hs hr (iset ha 1 G p) T G A n x14 u y r' 1 := k904 _ _ _ _ _ _ _ _ _ _ _ _ _ _ ⟨by omega, _, n2, l0⟩
      have v895 : V895 (k + 1) h' hs hr (iset ha 1 G p) T G A n x14 u y r' 0 (cnt (hh 6) 0 G 0) (cnt (hh 6) 0 G 0) := k895 _ _ _ _ _ _ _ _ _ _ _ _ _ _ _ _ ⟨(by unfold inR; omega), (by unfold inR; omega), nf (by omega) v904⟩
      exact ⟨(by unfold inR; omega), bf (by omega) (k866 _ _ _ _ _ _ _ _ _ _ _ _ _ _ _ ⟨(by unfold inR; omega), bf (by omega) (k876 _ _ _ _ _ _ _ _ _ _ _ _ _ _ _ _ ⟨R1, R1, nf rfl ⟨by omega, _, nw, (by unfold inR; omega), bt (by omega) v895⟩⟩)⟩)⟩
  refine ⟨⟨by omega, by omega⟩, ⟨by omega, by omega⟩, fun z55 a55 b55 z56 a56 b56 => ⟨(by unfold inR; omega), fun _ => body 12 z55 (Or.inl rfl) a55 b55, fun _ => body 4 z55 (Or.inr rfl) a55 b55⟩⟩
set_option maxHeartbeats 4000000 in
theorem br_pass {V987 : Nat → ISt → ISt → ISt → ISt → Int → Int → Int → Int → Int → Int → Int → Int → Int → Int → Int → Int → Int → Prop} {V1108 : Nat → ISt → ISt → ISt → ISt → Int → Int → Int → Int → Int → Int → Int → Int → Int → Int → Int → Int → Int → Prop} {V1020 : Nat → ISt → ISt → ISt → ISt → Int → Int → Int → Int → Int → Int → Int → Int → Int → Prop} {V1770 : Nat → ISt → ISt → ISt → ISt → Int → Int → Int → Int → Int → Int → Int → Int → Prop} (k987 : ∀ (k : Nat) (hh hs hr ha : ISt) (x9 x10 x11 x12 x13 x14 x15 x17 x18 x19 x20 x21 x22 : Int), (inR x18 ∧ ((¬ x18 = (6 : Int) → (V1108 k hh hs hr ha x9 x10 x11 x12 x13 x14 x15 x17 x18 x19 x20 x21 x22)) ∧ (x18 = (6 : Int) → (∀ z83 : Int, 0 ≤ z83 → z83 ≤ 3 → (inR z83 ∧ ((¬ z83 = (0 : Int) → (V1108 k hh hs hr ha x9 x10 x11 x12 x13 x14 x15 x17 x18 x19 x20 x21 x22)) ∧ (z83 = (0 : Int) → (inR x10 ∧ ((¬ x10 = (0 : Int) → (k + 1 ≤ 10000 ∧ Q_L_on hh hs hr (1 : Int) x19 (0 : Int) (0 : Int) (fun (r84 : Int) (hh85 hs86 hr87 : ISt) => V1020 (k + 1) hh85 hs86 hr87 ha x9 x10 x11 x12 x14 x15 x17 x19 r84))) ∧ (x10 = (0 : Int) → (V1020 k hh hs hr ha x9 x10 x11 x12 x14 x15 x17 x19 (-13 : Int)))))))))))) → V987 k hh hs hr ha x9 x10 x11 x12 x13 x14 x15 x17 x18 x19 x20 x21 x22) (k1020 : ∀ (k : Nat) (hh hs hr ha : ISt) (x9 x10 x11 x12 x14 x15 x17 x19 t0 : Int), ((0 ≤ x17 ∧ x17 ≤ 2147483647) ∧ (0 ≤ (2 : Int) ∧ (2 : Int) < 32) ∧ (∀ z102 : Int, 0 ≤ z102 → z102 ≤ x17 → ((0 ≤ z102 ∧ z102 ≤ 2147483647) ∧ (0 < (30 : Int) ∧ (30 : Int) ≤ 2147483647) ∧ (∀ z103 : Int, 0 ≤ z103 → z103 < (30 : Int) → z103 ≤ z102 → (k ≤ 10000 ∧ ∃ r104 : Int, Q_X4_now hh hs hr r104 ∧ (k ≤ 10000 ∧ Qn_X4_pass hh hs hr ((1 : Int) + z103) (fun (r105 : Int) (hh106 hs107 hr108 : ISt) => inR r105 ∧ inR (r104 + ((1 : Int) + z103)) ∧ ((¬ r105 = (r104 + ((1 : Int) + z103)) → (V1770 k hh106 hs107 hr108 ha x9 x10 x11 x12 (0 : Int) x14 x15 x17)) ∧ (r105 = (r104 + ((1 : Int) + z103)) → (inR x10 ∧ ((x10 = (0 : Int) → (V1770 k hh106 hs107 hr108 ha x9 x10 x11 x12 (1 : Int) x14 x15 x17)) ∧ (¬ x10 = (0 : Int) → (k + 1 ≤ 10000 ∧ Q_L_on hh106 hs107 hr108 (1 : Int) x19 (0 : Int) (0 : Int) (fun (r109 : Int) (hh110 hs111 hr112 : ISt) => inR t0 ∧ ((¬ t0 = (-13 : Int) → (inR t0 ∧ inR ((1 : Int) + z103) ∧ ((t0 ≤ ((1 : Int) + z103) → (inR r109 ∧ ((¬ r109 = (0 : Int) → (V1770 (k + 1) hh110 hs111 hr112 ha x9 x10 x11 x12 (0 : Int) x14 x15 x17)) ∧ (r109 = (0 : Int) → (V1770 (k + 1) hh110 hs111 hr112 ha x9 x10 x11 x12 (1 : Int) x14 x15 x17))))) ∧ (¬ t0 ≤ ((1 : Int) + z103) → (inR r109 ∧ inR (t0 - ((1 : Int) + z103)) ∧ ((¬ r109 = (t0 - ((1 : Int) + z103)) → (V1770 (k + 1) hh110 hs111 hr112 ha x9 x10 x11 x12 (0 : Int) x14 x15 x17)) ∧ (r109 = (t0 - ((1 : Int) + z103)) → (V1770 (k + 1) hh110 hs111 hr112 ha x9 x10 x11 x12 (1 : Int) x14 x15 x17)))))))) ∧ (t0 = (-13 : Int) → (inR r109 ∧ ((¬ r109 = (-13 : Int) → (V1770 (k + 1) hh110 hs111 hr112 ha x9 x10 x11 x12 (0 : Int) x14 x15 x17)) ∧ (r109 = (-13 : Int) → (V1770 (k + 1) hh110 hs111 hr112 ha x9 x10 x11 x12 (1 : Int) x14 x15 x17)))))))))))))))))))) → V1020 k hh hs hr ha x9 x10 x11 x12 x14 x15 x17 x19 t0) {k0 u : Nat} {x14 y : Int} (hE : EndV V1770 k0 x14 y u) (hk0 : k0 ≤ 9000) (hu : u ≤ 209) (hy : 0 ≤ y ∧ y ≤ 268435455) {k : Nat} {hh hs hr ha : ISt} {T A n G : Nat} (L : LawI hh hs hr ha T A n G) (hk : k ≤ k0) (E : Early u hh T A n) (u4 : 4 ≤ u) {d g t c z : Int} (hd : Deed u d) (hg : Pick g G)
    (h1108 : V1108 k hh hs hr ha T G A n 1 x14 u y d g t c z) : V987 k hh hs hr ha T G A n 1 x14 u y d g t c z := by
  obtain ⟨li, ls, lt, lb, lh, lss, lr⟩ := L
  have bG := li.2.2.1
  have b0 := li.1
  have bd : 0 ≤ d ∧ d ≤ 15 := ⟨hd.1, hd.2.1⟩
  have eM := E.2.2.2.2
  have body : ∀ (k' : Nat) (t0 : Int), k' ≤ k + 1 → (∀ g' : Nat, g = g' → g' < G → t0 = (if hh 6 g' = 1 then leftI hh g' else -13)) → inR t0 → V1020 k' hh hs hr ha T G A n x14 u y g t0 := by
    intro k' t0 hk' ht rt
    refine k1020 _ _ _ _ _ _ _ _ _ _ _ _ _ _ ⟨⟨by omega, by omega⟩, ⟨by omega, by omega⟩, fun z102 a102 b102 => ⟨⟨by omega, by omega⟩, ⟨by omega, by omega⟩, fun z103 a103 b103 c103 => ⟨by omega, _, (rfl : Q_X4_now hh hs hr (hh 0 0)), by omega, ?_⟩⟩⟩
    have lj := later_i li (m := 1 + z103) (by omega) (by omega)
    have fin : ∀ k'' : Nat, k'' ≤ k + 2 → V1770 k'' (later hh (1 + z103)) hs hr ha T G A n 1 x14 u y := fun k'' h'' => hE k'' _ hs hr ha T A n G ⟨lj, ls, lt, lb, lh, lss, lr⟩ (by omega) (E.more (by omega) (by omega) (by omega) (fun h => by omega) (by show hh 0 0 + (1 + z103) ≤ hh 0 0 + 30; omega))
    refine n_pass li (by omega) (by omega) ⟨(by unfold inR; omega), (by unfold inR; omega), nf rfl ⟨(by unfold inR; omega), fun _ => fin k' (by omega), fun cG => ⟨by omega, ?_⟩⟩⟩
    obtain ⟨g', eg⟩ := nat_of hg.1
    subst eg
    have gG : g' < G := by
      have := hg.2
      omega
    have tt := ht g' rfl gG
    have lb1 := left_b li (by omega : g' < 30)
    have lb2 := left_b lj (by omega : g' < 30)
    have rel : leftI (later hh (1 + z103)) g' = imax (hh 5 g' - (hh 0 0 + (1 + z103))) 0 := rfl
    have rel0 : leftI hh g' = imax (hh 5 g' - hh 0 0) 0 := rfl
    refine on_left lj gG ?_
    have e6 : later hh (1 + z103) 6 g' = hh 6 g' := rfl
    rw [e6]
    by_cases c6 : hh 6 g' = 1
    · rw [if_pos c6] at tt ⊢
      subst tt
      refine ⟨(by unfold inR; omega), nt (by omega) ⟨(by unfold inR; omega), (by unfold inR; omega), fun c => ⟨(by unfold inR; omega), nf ?_ (fin _ (by omega))⟩, fun c => ⟨(by unfold inR; omega), (by unfold inR; omega), nf ?_ (fin _ (by omega))⟩⟩⟩
      · rw [rel]
        rw [rel0] at c
        unfold imax at c ⊢
        split at c <;> split <;> omega
      · rw [rel, rel0]
        rw [rel0] at c
        unfold imax at c ⊢
        split at c <;> split <;> omega
    · rw [if_neg c6] at tt ⊢
      subst tt
      exact ⟨(by unfold inR; omega), nf rfl ⟨(by unfold inR; omega), nf rfl (fin _ (by omega))⟩⟩
  refine k987 _ _ _ _ _ _ _ _ _ _ _ _ _ _ _ _ _ _ ⟨(by unfold inR; omega), fun _ => h1108, fun _ z83 a83 b83 => ⟨(by unfold inR; omega), fun _ => h1108, fun _ => ⟨(by unfold inR; omega), fun cG => ⟨by omega, ?_⟩, fun cG => body k (-13) (by omega) (fun g' e h => absurd h (by omega)) (by unfold inR; omega)⟩⟩⟩
  obtain ⟨g', eg⟩ := nat_of hg.1
  subst eg
  have gG : g' < G := by
    have := hg.2
    omega
  have lb1 := left_b li (by omega : g' < 30)
  refine on_left li gG (body (k + 1) _ (by omega) (fun g'' e h => by rw [show g'' = g' by omega]) ?_)
  split
  · exact (by unfold inR; omega)
  · exact (by unfold inR; omega)
set_option maxHeartbeats 4000000 in
theorem br_leave {V1108 : Nat → ISt → ISt → ISt → ISt → Int → Int → Int → Int → Int → Int → Int → Int → Int → Int → Int → Int → Int → Prop} {V1290 : Nat → ISt → ISt → ISt → ISt → Int → Int → Int → Int → Int → Int → Int → Int → Int → Int → Int → Int → Int → Prop} {V1147 : Nat → ISt → ISt → ISt → ISt → Int → Int → Int → Int → Int → Int → Int → Int → Int → Prop} {V1148 : Nat → ISt → ISt → ISt → ISt → Int → Int → Int → Int → Int → Int → Int → Int → Int → Int → Prop} {V1172 : Nat → ISt → ISt → ISt → ISt → Int → Int → Int → Int → Int → Int → Int → Int → Int → Int → Prop} {V1173 : Nat → ISt → ISt → ISt → ISt → Int → Int → Int → Int → Int → Int → Int → Int → Int → Int → Int → Prop} {V1198 : Nat → ISt → ISt → ISt → ISt → Int → Int → Int → Int → Int → Int → Int → Int → Int → Int → Int → Int → Int → Prop} {V1208 : Nat → ISt → ISt → ISt → ISt → Int → Int → Int → Int → Int → Int → Int → Int → Int → Int → Int → Int → Int → Prop} {V1261 : Nat → ISt → ISt → ISt → ISt → Int → Int → Int → Int → Int → Int → Int → Int → Int → Prop} {V1265 : Nat → ISt → ISt → ISt → ISt → Int → Int → Int → Int → Int → Int → Int → Int → Int → Prop} {V1266 : Nat → ISt → ISt → ISt → ISt → Int → Int → Int → Int → Int → Int → Int → Int → Int → Int → Prop} {V1770 : Nat → ISt → ISt → ISt → ISt → Int → Int → Int → Int → Int → Int → Int → Int → Prop} (k1108 : ∀ (k : Nat) (hh hs hr ha : ISt) (x9 x10 x11 x12 x13 x14 x15 x17 x18 x19 x20 x21 x22 : Int), (inR x18 ∧ (((8 : Int) ≤ x18 → (V1290 k hh hs hr ha x9 x10 x11 x12 x13 x14 x15 x17 x18 x19 x20 x21 x22)) ∧ (¬ (8 : Int) ≤ x18 → (inR x10 ∧ ((x10 ≤ (0 : Int) → (V1290 k hh hs hr ha x9 x10 x11 x12 x13 x14 x15 x17 x18 x19 x20 x21 x22)) ∧ (¬ x10 ≤ (0 : Int) → (k ≤ 10000 ∧ ∃ r100 : Int, Q_X4_waiting hh hs hr r100 ∧ (k ≤ 10000 ∧ ∃ r101 : Int, Qn_X4_tableOf hh hs hr x19 r101 ∧ (inR r101 ∧ (((0 : Int) ≤ r101 → (V1147 k hh hs hr ha x9 x10 x11 x12 x14 x15 x17 x19 r100)) ∧ (¬ (0 : Int) ≤ r101 → ((0 ≤ x19 ∧ x19 < 30) ∧ (inR (ha 2 x19.toNat) ∧ ((¬ (ha 2 x19.toNat) = (0 : Int) → (V1147 k hh hs hr ha x9 x10 x11 x12 x14 x15 x17 x19 r100)) ∧ ((ha 2 x19.toNat) = (0 : Int) → (V1148 k hh hs hr ha x9 x10 x11 x12 x14 x15 x17 x19 r100 (1 : Int))))))))))))))))) → V1108 k hh hs hr ha x9 x10 x11 x12 x13 x14 x15 x17 x18 x19 x20 x21 x22) (k1147 : ∀ (k : Nat) (hh hs hr ha : ISt) (x9 x10 x11 x12 x14 x15 x17 x19 x23 : Int), (V1148 k hh hs hr ha x9 x10 x11 x12 x14 x15 x17 x19 x23 (0 : Int)) → V1147 k hh hs hr ha x9 x10 x11 x12 x14 x15 x17 x19 x23) (k1148 : ∀ (k : Nat) (hh hs hr ha : ISt) (x9 x10 x11 x12 x14 x15 x17 x19 x23 t0 : Int), ((0 ≤ x19 ∧ x19 < 30) ∧ (inR (ha 2 x19.toNat) ∧ ((¬ (ha 2 x19.toNat) = (0 : Int) → (V1172 k hh hs hr ha x9 x10 x11 x12 x14 x15 x17 x19 x23 t0)) ∧ ((ha 2 x19.toNat) = (0 : Int) → (k ≤ 10000 ∧ ∃ r133 : Int, Qn_X4_copyOf hh hs hr x19 r133 ∧ (inR r133 ∧ ((¬ r133 = (-1 : Int) → (V1172 k hh hs hr ha x9 x10 x11 x12 x14 x15 x17 x19 x23 t0)) ∧ (r133 = (-1 : Int) → (V1173 k hh hs hr ha x9 x10 x11 x12 x14 x15 x17 x19 x23 t0 (1 : Int)))))))))) → V1148 k hh hs hr ha x9 x10 x11 x12 x14 x15 x17 x19 x23 t0) (k1172 : ∀ (k : Nat) (hh hs hr ha : ISt) (x9 x10 x11 x12 x14 x15 x17 x19 x23 x24 : Int), (V1173 k hh hs hr ha x9 x10 x11 x12 x14 x15 x17 x19 x23 x24 (0 : Int)) → V1172 k hh hs hr ha x9 x10 x11 x12 x14 x15 x17 x19 x23 x24) (k1173 : ∀ (k : Nat) (hh hs hr ha : ISt) (x9 x10 x11 x12 x14 x15 x17 x19 x23 x24 t0 : Int), (k + 1 ≤ 10000 ∧ Q_L_on hh hs hr (0 : Int) x19 (0 : Int) (0 : Int) (fun (r142 : Int) (hh143 hs144 hr145 : ISt) => inR r142 ∧ ((¬ r142 = (-13 : Int) → (V1198 (k + 1) hh143 hs144 hr145 ha x9 x10 x11 x12 x14 x15 x17 x19 x23 x24 t0 r142 (0 : Int))) ∧ (r142 = (-13 : Int) → (V1198 (k + 1) hh143 hs144 hr145 ha x9 x10 x11 x12 x14 x15 x17 x19 x23 x24 t0 r142 (1 : Int)))))) → V1173 k hh hs hr ha x9 x10 x11 x12 x14 x15 x17 x19 x23 x24 t0) (k1198 : ∀ (k : Nat) (hh hs hr ha : ISt) (x9 x10 x11 x12 x14 x15 x17 x19 x23 x24 x25 x26 t0 : Int), (inR x25 ∧ ((¬ x25 = (0 : Int) → (V1208 k hh hs hr ha x9 x10 x11 x12 x14 x15 x17 x19 x23 x24 x26 (0 : Int) t0)) ∧ (x25 = (0 : Int) → (V1208 k hh hs hr ha x9 x10 x11 x12 x14 x15 x17 x19 x23 x24 x26 (1 : Int) t0)))) → V1198 k hh hs hr ha x9 x10 x11 x12 x14 x15 x17 x19 x23 x24 x25 x26 t0) (k1208 : ∀ (k : Nat) (hh hs hr ha : ISt) (x9 x10 x11 x12 x14 x15 x17 x19 x23 x24 x26 t0 t1 : Int), (inR t1 ∧ inR t0 ∧ ((¬ t1 = t0 → (V1265 k hh hs hr ha x9 x10 x11 x12 x14 x15 x17 x19 x26)) ∧ (t1 = t0 → (inR x26 ∧ (((0 : Int) ≤ x26 → (k ≤ 10000 ∧ ∃ r167 : Int, Q_X4_waiting hh hs hr r167 ∧ (inR x24 ∧ ((x24 = (0 : Int) → (inR r167 ∧ inR ((x23 - x26) - (0 : Int)) ∧ ((¬ r167 = ((x23 - x26) - (0 : Int)) → (V1265 k hh hs hr ha x9 x10 x11 x12 x14 x15 x17 x19 x26)) ∧ (r167 = ((x23 - x26) - (0 : Int)) → (k ≤ 10000 ∧ ∃ r168 : Int, Qn_X4_tableOf hh hs hr x19 r168 ∧ (inR r168 ∧ ((¬ r168 = (-1 : Int) → (V1265 k hh hs hr ha x9 x10 x11 x12 x14 x15 x17 x19 x26)) ∧ (r168 = (-1 : Int) → (V1261 k hh hs hr ha x9 x10 x11 x12 x14 x15 x17 x19 x26))))))))) ∧ (¬ x24 = (0 : Int) → (inR r167 ∧ inR ((x23 - x26) - (1 : Int)) ∧ ((¬ r167 = ((x23 - x26) - (1 : Int)) → (V1265 k hh hs hr ha x9 x10 x11 x12 x14 x15 x17 x19 x26)) ∧ (r167 = ((x23 - x26) - (1 : Int)) → (k ≤ 10000 ∧ ∃ r169 : Int, Qn_X4_tableOf hh hs hr x19 r169 ∧ (inR r169 ∧ ((¬ r169 = (-1 : Int) → (V1265 k hh hs hr ha x9 x10 x11 x12 x14 x15 x17 x19 x26)) ∧ (r169 = (-1 : Int) → (V1261 k hh hs hr ha x9 x10 x11 x12 x14 x15 x17 x19 x26))))))))))))) ∧ (¬ (0 : Int) ≤ x26 → (k ≤ 10000 ∧ ∃ r170 : Int, Q_X4_waiting hh hs hr r170 ∧ (inR r170 ∧ inR x23 ∧ ((¬ r170 = x23 → (V1265 k hh hs hr ha x9 x10 x11 x12 x14 x15 x17 x19 x26)) ∧ (r170 = x23 → (V1261 k hh hs hr ha x9 x10 x11 x12 x14 x15 x17 x19 x26))))))))))) → V1208 k hh hs hr ha x9 x10 x11 x12 x14 x15 x17 x19 x23 x24 x26 t0 t1) (k1261 : ∀ (k : Nat) (hh hs hr ha : ISt) (x9 x10 x11 x12 x14 x15 x17 x19 x26 : Int), (V1266 k hh hs hr ha x9 x10 x11 x12 x14 x15 x17 x19 x26 (1 : Int)) → V1261 k hh hs hr ha x9 x10 x11 x12 x14 x15 x17 x19 x26) (k1266 : ∀ (k : Nat) (hh hs hr ha : ISt) (x9 x10 x11 x12 x14 x15 x17 x19 x26 t0 : Int), (inR x26 ∧ (((0 : Int) ≤ x26 → ((0 ≤ x19 ∧ x19 < 30) ∧ (∀ h171 : ISt, h171 = iset ha 2 x19.toNat (1 : Int) → (V1770 k hh hs hr h171 x9 x10 x11 x12 t0 x14 x15 x17)))) ∧ (¬ (0 : Int) ≤ x26 → ((0 ≤ x19 ∧ x19 < 30) ∧ ((0 ≤ x19 ∧ x19 < 30) ∧ (∀ h172 : ISt, h172 = iset ha 2 x19.toNat (ha 2 x19.toNat) → (V1770 k hh hs hr h172 x9 x10 x11 x12 t0 x14 x15 x17))))))) → V1266 k hh hs hr ha x9 x10 x11 x12 x14 x15 x17 x19 x26 t0) {k0 u : Nat} {x14 y : Int} (hE : EndV V1770 k0 x14 y u) (hk0 : k0 ≤ 9000) {k : Nat} {hh hs hr ha : ISt} {T A n G : Nat} (L : LawI hh hs hr ha T A n G) (hk : k ≤ k0) (E : Early u hh T A n) (u4 : 4 ≤ u) {d g t c z : Int} (hd : Deed u d) (hg : Pick g G)
    (h1290 : V1290 k hh hs hr ha T G A n 1 x14 u y d g t c z) : V1108 k hh hs hr ha T G A n 1 x14 u y d g t c z := by
  obtain ⟨li, ls, lt, lb, lh, lss, lr⟩ := L
  have bG := li.2.2.1
  have bn := ls.2.1
  have bd : 0 ≤ d ∧ d ≤ 15 := ⟨hd.1, hd.2.1⟩
  refine k1108 _ _ _ _ _ _ _ _ _ _ _ _ _ _ _ _ _ _ ⟨(by unfold inR; omega), fun _ => h1290, fun _ => ⟨(by unfold inR; omega), fun _ => h1290, fun cG => ?_⟩⟩
  obtain ⟨g', eg⟩ := nat_of hg.1
  subst eg
  have gG : g' < G := by
    have := hg.2
    omega
  have ig : (g' : Int).toNat = g' := Int.toNat_natCast g'
  have a2 := lh.2.2 g' (by omega)
  have b7 := li.2.2.2.2.2.2.1 g' gG
  have cb := cnt_b (hh 6) 0 G 0
  obtain ⟨r, h', q1, q2, ⟨q30, q31, q33, q34⟩, q4, q5, q6, q7, q8⟩ := dismiss_ex li gG
  have cb' := cnt_b (h' 6) 0 G 0
  have hb : inR (held hs n g') := by
    rcases held_or ls g' with ⟨e, _⟩ | ⟨c, e, hc, _⟩
    · rw [e]; exact (by unfold inR; omega)
    · rw [e]; exact (by unfold inR; omega)
  have w2 := row_none q2 (by omega : g' < 30) (by omega)
  -- the end, when it has left
  have left1 : held hs n g' = -1 → hh 6 g' ≠ 2 → ∀ x24 : Int, x24 = (if hh 6 g' = 0 then 1 else 0) → V1198 (k + 1) h' hs hr ha T G A n x14 u y g' (cnt (hh 6) 0 G 0) x24 1 r 0 := by
    intro c1 c2 x24 e24
    have r24 : x24 = 0 ∨ x24 = 1 := by
      rw [e24]
      split <;> omega
    have fin : V1261 (k + 1) h' hs hr ha T G A n x14 u y g' r := by
      refine k1261 _ _ _ _ _ _ _ _ _ _ _ _ _ _ (k1266 _ _ _ _ _ _ _ _ _ _ _ _ _ _ _ ⟨(by unfold inR; omega), bt (by omega) ⟨⟨by omega, by omega⟩, fa ?_⟩⟩)
      rw [ig]
      refine hE (k + 1) h' hs hr _ T A n G ⟨q2, ls, ?_, lb, ?_, lss, lr⟩ (by omega) (E.more (by omega) (by omega) (by omega) (fun h => by omega) (by rw [q30]; omega))
      · intro x hx h
        have b := ls.2.2.2.2.1 x hx
        have q := lt x hx h
        have ne : (hs 6 x).toNat ≠ g' := by
          intro e
          rcases held_or ls g' with ⟨_, h2⟩ | ⟨c, e2, _⟩
          · exact h2 x hx (by omega)
          · omega
        have := q5 (hs 6 x).toNat ne
        omega
      · refine ⟨fun x hx => by rw [q31]; exact lh.1 x hx, fun x hx => by rw [q33]; exact lh.2.1 x hx, fun x hx => ?_⟩
        show iupd (ha 2) g' 1 x = _
        by_cases e : x = g'
        · rw [e, u_eq, q4, if_pos rfl]
        · rw [u_ne e, lh.2.2 x hx]
          have := q5 x e
          by_cases f : hh 6 x = 2
          · rw [if_pos f, if_pos (by omega)]
          · rw [if_neg f, if_neg (by omega)]
    have n1 := n_tableOf (hs := hs) (hr := hr) q2 gG
    rw [w2.1] at n1
    have wv : cnt (h' 6) 0 G 0 = cnt (hh 6) 0 G 0 - r - x24 := by rw [q8, e24]
    refine k1198 _ _ _ _ _ _ _ _ _ _ _ _ _ _ _ _ _ _ ⟨R1, nt n10 (k1208 _ _ _ _ _ _ _ _ _ _ _ _ _ _ _ _ _ _ ⟨R0, R0, nf rfl ⟨(by unfold inR; omega), bt (by omega) ⟨by omega, _, n_waiting q2, by rcases r24 with h | h <;> rw [h] <;> exact (by unfold inR; omega), fun c => ⟨(by unfold inR; omega), (by unfold inR; omega), nf (by omega) ⟨by omega, _, n1, (by unfold inR; omega), nf rfl fin⟩⟩, fun c => ⟨(by unfold inR; omega), (by unfold inR; omega), nf (by omega) ⟨by omega, _, n1, (by unfold inR; omega), nf rfl fin⟩⟩⟩⟩⟩)⟩
  -- the end, when it can't
  have left0 : held hs n g' ≠ -1 ∨ hh 6 g' = 2 → ∀ x24 : Int, V1198 (k + 1) hh hs hr ha T G A n x14 u y g' (cnt (hh 6) 0 G 0) x24 0 (-13) 1 := by
    intro _ x24
    have fin : V1261 (k + 1) hh hs hr ha T G A n x14 u y g' (-13) := by
      refine k1261 _ _ _ _ _ _ _ _ _ _ _ _ _ _ (k1266 _ _ _ _ _ _ _ _ _ _ _ _ _ _ _ ⟨(by unfold inR; omega), bf (by omega) ⟨⟨by omega, by omega⟩, ⟨by omega, by omega⟩, fa ?_⟩⟩)
      rw [ig, iset_id]
      exact hE (k + 1) hh hs hr ha T A n G ⟨li, ls, lt, lb, lh, lss, lr⟩ (by omega) (E.more (by omega) (by omega) (by omega) (fun h => by omega) (by omega))
    exact k1198 _ _ _ _ _ _ _ _ _ _ _ _ _ _ _ _ _ _ ⟨R0, nf rfl (k1208 _ _ _ _ _ _ _ _ _ _ _ _ _ _ _ _ _ _ ⟨R1, R1, nf rfl ⟨(by unfold inR; omega), bf (by omega) ⟨by omega, _, n_waiting li, (by unfold inR; omega), (by unfold inR; omega), nf rfl fin⟩⟩⟩)⟩
  have v1173 : ∀ x24 can : Int, x24 = (if hh 6 g' = 0 then 1 else 0) → ((can = 1 ∧ held hs n g' = -1 ∧ hh 6 g' ≠ 2) ∨ (can = 0 ∧ (held hs n g' ≠ -1 ∨ hh 6 g' = 2))) → V1173 k hh hs hr ha T G A n x14 u y g' (cnt (hh 6) 0 G 0) x24 can := by
    intro x24 can e24 hc
    refine k1173 _ _ _ _ _ _ _ _ _ _ _ _ _ _ _ _ ⟨by omega, on_leave li ls gG q1 (fun c1 c2 => ?_) (fun c1 => ?_)⟩
    · have ec : can = 1 := by
        rcases hc with h | h
        · exact h.1
        · rcases h.2 with h | h
          · exact absurd c1 h
          · exact absurd h c2
      rw [ec]
      exact ⟨(by unfold inR; omega), nt (by omega) (left1 c1 c2 x24 e24)⟩
    · have ec : can = 0 := by
        rcases hc with h | h
        · rcases c1 with f | f
          · exact absurd h.2.1 f
          · exact absurd f h.2.2
        · exact h.1
      rw [ec]
      exact ⟨(by unfold inR; omega), nf rfl (left0 c1 x24)⟩
  have v1148 : ∀ x24 : Int, x24 = (if hh 6 g' = 0 then 1 else 0) → V1148 k hh hs hr ha T G A n x14 u y g' (cnt (hh 6) 0 G 0) x24 := by
    intro x24 e24
    refine k1148 _ _ _ _ _ _ _ _ _ _ _ _ _ _ _ ⟨⟨by omega, by omega⟩, ?_⟩
    rw [ig, a2]
    by_cases c6 : hh 6 g' = 2
    · rw [if_pos c6]
      exact ⟨R1, nt n10 (k1172 _ _ _ _ _ _ _ _ _ _ _ _ _ _ _ (v1173 x24 0 e24 (Or.inr ⟨rfl, Or.inr c6⟩)))⟩
    · rw [if_neg c6]
      exact ⟨R0, nf rfl ⟨by omega, _, n_copyOf li ls gG, hb, fun c => k1172 _ _ _ _ _ _ _ _ _ _ _ _ _ _ _ (v1173 x24 0 e24 (Or.inr ⟨rfl, Or.inl c⟩)), fun c => v1173 x24 1 e24 (Or.inl ⟨rfl, c, c6⟩)⟩⟩
  refine ⟨by omega, _, n_waiting li, by omega, _, n_tableOf li gG, ?_⟩
  by_cases c6 : hh 6 g' = 1
  · obtain ⟨f, m, w, wfm, _⟩ := row_sits li gG c6
    have bT := li.2.1
    rw [w]
    exact ⟨(by unfold inR; omega), bt (by omega) (k1147 _ _ _ _ _ _ _ _ _ _ _ _ _ _ (v1148 0 (by rw [if_neg (by omega)])))⟩
  · rw [(row_none li (by omega : g' < 30) c6).1]
    refine ⟨(by unfold inR; omega), bf (by omega) ⟨⟨by omega, by omega⟩, ?_⟩⟩
    rw [ig, a2]
    by_cases c2 : hh 6 g' = 2
    · rw [if_pos c2]
      exact ⟨R1, nt n10 (k1147 _ _ _ _ _ _ _ _ _ _ _ _ _ _ (v1148 0 (by rw [if_neg (by omega)])))⟩
    · rw [if_neg c2]
      exact ⟨R0, nf rfl (v1148 1 (by rw [if_pos (by omega)]))⟩
