theorem q_lend {h : ISt} {n x C K : Nat} {v : Int} (bn : n ≤ 16) (hx : x < n) (hC : C < n) (hK : K < 4) (ne : x ≠ C) : Q_X3_lend h x C K v (lentS h C x K v) := by
  refine ⟨(by unfold inR; omega), fp x rfl (by omega) rfl ⟨(by unfold inR; omega), fp (4 * x + K) (by omega) (by omega) rfl ⟨_, q_change (by omega) hK, _, q_change (by omega) hK, ?_⟩⟩⟩
  have e : iset (iset (iset h 7 x C) 8 (4 * x + K) v) 9 (4 * x + K) (iset (iset h 7 x C) 8 (4 * x + K) v 9 (4 * x + K) + -v) 9 (4 * C + K) = h 9 (4 * C + K) := u_ne (by omega)
  rw [e]
  rfl
/-- nothing lacking: the class goes through the rest for nothing -/
theorem hand_idle {hA s h' : ISt} {n C A K : Nat} {g : Int} (ho : CopyOk s n) (hC : C < n) (eA : s 5 C = A) (bA : A < 8) (hK : K < 4) (full : s 4 (4 * A + K) = s 9 (4 * C + K)) (b9 : ∀ c : Nat, c < n → 0 ≤ s 9 (4 * c + K) ∧ s 9 (4 * c + K) ≤ 9) (q : L_X3_handOut_2 hA C g h' s ((K : Int) + 1)) : ∀ (i x : Nat), x + i = n → L_X3_handOut_10 hA C g h' s K x := by
  have ho' := ho
  obtain ⟨en, bn, hrg⟩ := ho'
  intro i
  induction i with
  | zero =>
    intro x hx V2 V10 k2 k10
    exact k10 _ _ _ ⟨(by unfold inR; omega), (by unfold inR; omega), bt (by omega) (q V2 V10 k2 k10)⟩
  | succ i ih =>
    intro x hx V2 V10 k2 k10
    have z := ih (x + 1) (by omega) V2 V10 k2 k10
    have b := b9 x (by omega)
    have im : imin (s 4 (4 * A + K) - s 9 (4 * C + K)) (s 9 (4 * x + K)) = 0 := by
      unfold imin
      split <;> omega
    refine k10 _ _ _ ⟨(by unfold inR; omega), (by unfold inR; omega), bf (by omega) ⟨_, q_lack (by omega) eA bA hK, _, q_count (by omega) hK, (by unfold inR; omega), (by unfold inR; omega), ?_⟩⟩
    by_cases c : x ≠ C ∧ s 5 x = s 5 C ∧ s 6 x = -1 ∧ (s 7 x = -1 ∨ s 7 x = C)
    · refine ⟨1, q_may1 ho (by omega) hC c, R1, bf n10 ⟨by rw [im]; exact R0, bt (by omega) z⟩⟩
    · exact ⟨0, q_may0 ho (by omega) hC c, R0, bt rfl z⟩
theorem sv_all {s0 m0 : ISt} {n C A : Nat} (hb : SvB s0 m0 n C A) (hA hL : ISt) {g : Int} (hg : inR g) : ∀ (j K : Nat), K + j = 4 → ∀ (s m : ISt) (N : Nat), SvI s0 m0 n C s m N K 0 →
    ∃ (s' m' : ISt) (N' : Nat), SvI s0 m0 n C s' m' N' 4 0 ∧ L_X3_handOut_2 hA C g (iset s' 6 C g) s K ∧ L_X5_lends_2 hL C m' m K := by
  have hb' := hb
  obtain ⟨⟨en, bn, hrg⟩, hC, c6, c7, c5, bA, hW, hnb, b19, b12, b11⟩ := hb'
  intro j
  induction j with
  | zero =>
    intro K hK s m N inv
    have hK : K = 4 := hK
    subst hK
    refine ⟨s, m, N, inv, ?_, ?_⟩
    · intro V2 V10 k2 k10
      exact k2 _ _ ⟨(by unfold inR; omega), bt (by omega) ⟨(by unfold inR; omega), fp C rfl (by omega) rfl rfl⟩⟩
    · intro V2 V37 V97 V98 V125 V137 k2 k37 k97 k98 k125 k137
      exact k2 _ _ ⟨(by unfold inR; omega), bt (by omega) rfl⟩
  | succ j ih =>
    intro K hK s m N inv
    have hK4 : K < 4 := by omega
    have inner : ∀ (i x : Nat), x + i = n → ∀ (s m : ISt) (N : Nat) (lm : Int), SvI s0 m0 n C s m N K x → lm = s0 4 (4 * A + K) - s 9 (4 * C + K) →
        ∃ (s' m' : ISt) (N' : Nat), SvI s0 m0 n C s' m' N' 4 0 ∧ L_X3_handOut_10 hA C g (iset s' 6 C g) s K x ∧ L_X5_lends_37 hL C m' m K lm x := by
      intro i
      induction i with
      | zero =>
        intro x hx s m N lm inv elm
        obtain ⟨s', m', N', q1, q2, q3⟩ := ih (K + 1) (by omega) s m N (sv_pos (fun d k hd hp => by omega) inv)
        have e01 : s 0 1 = n := by rw [inv.1 0 (by decide) (by decide) (by decide)]; exact en
        have e19 : m 0 19 = n := by rw [inv.2.1.2 19 (by decide)]; exact b19
        have w := inv.2.2.2.1 C K hC hK4
        have w2 := hW C K hC hK4
        rw [c5, Int.toNat_natCast] at w w2
        refine ⟨s', m', N', q1, ?_, ?_⟩
        · intro V2 V10 k2 k10
          exact k10 _ _ _ ⟨(by unfold inR; omega), (by unfold inR; omega), bt (by omega) (q2 V2 V10 k2 k10)⟩
        · intro V2 V37 V97 V98 V125 V137 k2 k37 k97 k98 k125 k137
          exact k37 _ _ _ _ ⟨(by unfold inR; omega), (by unfold inR; omega), bt (by omega) (q3 V2 V37 V97 V98 V125 V137 k2 k37 k97 k98 k125 k137)⟩
      | succ i ih2 =>
        intro x hx s m N lm inv elm
        have ok := sv_ok hb inv
        have inv' := inv
        obtain ⟨i1, ⟨i2, i2'⟩, i3, i4, ⟨i5, i5'⟩, i6, i7, i8, i9, i10, i11, i12, i13, i14, i15⟩ := inv'
        have e01 : s 0 1 = n := by rw [i1 0 (by decide) (by decide) (by decide)]; exact en
        have e19 : m 0 19 = n := by rw [i2' 19 (by decide)]; exact b19
        have s4 : s 4 = s0 4 := i1 4 (by decide) (by decide) (by decide)
        have s5 : s 5 = s0 5 := i1 5 (by decide) (by decide) (by decide)
        have s6 : s 6 = s0 6 := i1 6 (by decide) (by decide) (by decide)
        have m12 : m 12 = m0 12 := i2 12 (by decide) (by decide) (by decide) (by decide) (by decide) (by decide) (by decide)
        have w := i4 C K hC hK4
        have w2 := hW C K hC hK4
        rw [c5, Int.toNat_natCast] at w w2
        have sC : s 7 C = -1 := by
          rcases i9 C hC with u | u
          · omega
          · omega
        have lC : s 8 (4 * C + K) = 0 := i13 C K hC hK4 sC
        have b9 : ∀ c : Nat, c < n → 0 ≤ s 9 (4 * c + K) ∧ s 9 (4 * c + K) ≤ 9 := fun c hc => by
          have := i4 c K hc hK4
          have := hW c K hc hK4
          omega
        have bx := b9 x (by omega)
        have r13 := whr_b s x
        have e13 := i11 x (by omega)
        have eA : s 5 C = A := by rw [s5]; exact c5
        have x5 := hrg x (by omega)
        by_cases cl : lm ≤ 0
        · obtain ⟨s', m', N', q1, q2, q3⟩ := ih (K + 1) (by omega) s m N (sv_pos (fun d k hd hp => Or.inl (by omega)) inv)
          refine ⟨s', m', N', q1, hand_idle ok hC eA bA hK4 (by rw [s4]; omega) b9 q2 (i + 1) x hx, ?_⟩
          intro V2 V37 V97 V98 V125 V137 k2 k37 k97 k98 k125 k137
          exact k37 _ _ _ _ ⟨(by unfold inR; omega), (by unfold inR; omega), bf (by omega) ⟨(by unfold inR; omega), bt cl (q3 V2 V37 V97 V98 V125 V137 k2 k37 k97 k98 k125 k137)⟩⟩
        · -- whether the model takes from it
          have pbN := psum_b (s 8) 64
          have lt1 : s 7 x = C → Q_X5_lendsTo m x C 1 := by
            intro u
            obtain ⟨k', a1, a2⟩ := i10 x (by omega) (by omega)
            obtain ⟨t, a3, a4, a5⟩ := i7 x k' (by omega) a1 a2
            obtain ⟨k2, d2, b2, g1, g2, g3, g4, g5, g6, g7, g8, g9⟩ := i6 t a3
            have ed : d2 = x := by omega
            subst ed
            refine q_lendsTo1 (N := N) (by omega) i5 (fun t ht => ?_) (by omega) (by omega) a3 a4 (by omega)
            obtain ⟨k2, d2, b2, g1, g2, g3, g4, g5, g6, g7, g8, g9⟩ := i6 t ht
            exact ⟨(by unfold inR; omega), (by unfold inR; omega)⟩
          have lt0 : s 7 x ≠ C → Q_X5_lendsTo m x C 0 := by
            intro u
            refine q_lendsTo0 (N := N) (by omega) i5 (fun t ht => ?_) (by omega) (by omega) (fun t ht hh => ?_)
            · obtain ⟨k2, d2, b2, g1, g2, g3, g4, g5, g6, g7, g8, g9⟩ := i6 t ht
              exact ⟨(by unfold inR; omega), (by unfold inR; omega)⟩
            · obtain ⟨k2, d2, b2, g1, g2, g3, g4, g5, g6, g7, g8, g9⟩ := i6 t ht
              have ed : d2 = x := by omega
              subst ed
              omega
          by_cases cm : x ≠ C ∧ s 5 x = s 5 C ∧ s 6 x = -1 ∧ (s 7 x = -1 ∨ s 7 x = C)
          · obtain ⟨m1, m2, m3, m4⟩ := cm
            have wh : whr s x = if s 7 x = -1 then 0 else 2 := by
              unfold whr
              rw [if_pos m3]
            -- how the model gets to what it takes
            have e14 : m 14 (4 * (x : Int) + K).toNat = s 9 (4 * x + K) := by
              rw [show (4 * (x : Int) + K).toNat = 4 * x + K by omega]
              exact i3 _ (by omega)
            by_cases cv : s 9 (4 * x + K) ≤ 0
            · obtain ⟨s', m', N', q1, q2, q3⟩ := ih2 (x + 1) (by omega) s m N lm (sv_pos (fun d k hd hp => by omega) inv) elm
              refine ⟨s', m', N', q1, ?_, ?_⟩
              · intro V2 V10 k2 k10
                have z := q2 V2 V10 k2 k10
                have im : imin (s 4 (4 * A + K) - s 9 (4 * C + K)) (s 9 (4 * x + K)) ≤ 0 := by
                  unfold imin
                  split <;> omega
                have im2 : inR (imin (s 4 (4 * A + K) - s 9 (4 * C + K)) (s 9 (4 * x + K))) := by
                  unfold imin inR
                  rw [s4]
                  split <;> omega
                exact k10 _ _ _ ⟨(by unfold inR; omega), (by unfold inR; omega), bf (by omega) ⟨_, q_lack (by omega) eA bA hK4, _, q_count (by omega) hK4, by rw [s4]; exact (by unfold inR; omega), (by unfold inR; omega), 1, q_may1 ok (by omega) hC ⟨m1, m2, m3, m4⟩, R1, bf n10 ⟨im2, bt im z⟩⟩⟩
              · intro V2 V37 V97 V98 V125 V137 k2 k37 k97 k98 k125 k137
                have z := q3 V2 V37 V97 V98 V125 V137 k2 k37 k97 k98 k125 k137
                have z137 : V137 m K lm x (s 9 (4 * x + K)) := k137 _ _ _ _ _ ⟨(by unfold inR; omega), bt cv z⟩
                have z125 : V125 m K lm x (s 9 (4 * x + K)) := k125 _ _ _ _ _ ⟨(by unfold inR; omega), (by unfold inR; omega), bt (by omega) z137⟩
                have z98 : V98 m K lm x (s 9 (4 * x + K)) := by
                  refine k98 _ _ _ _ _ ⟨by omega, ?_⟩
                  rw [Int.toNat_natCast, e13]
                  refine ⟨(by unfold inR; omega), fun _ => z125, fun u => ⟨1, lt1 ?_, R1, nt n10 z125⟩⟩
                  rcases m4 with v | v
                  · rw [wh, if_pos v] at u
                    omega
                  · exact v
                refine k37 _ _ _ _ ⟨(by unfold inR; omega), (by unfold inR; omega), bf (by omega) ⟨(by unfold inR; omega), bf cl ⟨(by unfold inR; omega), (by unfold inR; omega), bf (by omega) ⟨by omega, by omega, ?_⟩⟩⟩⟩
                rw [Int.toNat_natCast, Int.toNat_natCast, m12, b12 x (by omega), b12 C hC, e13, e14]
                refine ⟨(by unfold inR; omega), (by unfold inR; omega), nf (by rw [← s5]; exact m2) ⟨by omega, (by unfold inR; omega), bf ?_ ⟨by omega, z98⟩⟩⟩
                rw [wh]
                split <;> omega
            · -- it does
              have hv : 0 < imin lm (s 9 (4 * x + K)) ∧ imin lm (s 9 (4 * x + K)) ≤ s 9 (4 * x + K) ∧ imin lm (s 9 (4 * x + K)) ≤ lm := by
                unfold imin
                split <;> omega
              obtain ⟨n1, n2⟩ := sv_step hb inv hK4 (show x < n by omega) m1 (by rw [← s5]; exact m2) (by rw [← s6]; exact m3) m4 (v := imin lm (s 9 (4 * x + K))) hv.1 hv.2.1 (by omega)
              have elm' : lm - imin lm (s 9 (4 * x + K)) = s0 4 (4 * A + K) - lentS s C x K (imin lm (s 9 (4 * x + K))) 9 (4 * C + K) := by
                have e : lentS s C x K (imin lm (s 9 (4 * x + K))) 9 (4 * C + K) = s 9 (4 * C + K) + imin lm (s 9 (4 * x + K)) := u_eq _ _ _
                rw [e]
                omega
              obtain ⟨s', m', N', q1, q2, q3⟩ := ih2 (x + 1) (by omega) _ _ _ (lm - imin lm (s 9 (4 * x + K))) n2 elm'
              refine ⟨s', m', N', q1, ?_, ?_⟩
              · intro V2 V10 k2 k10
                have z := q2 V2 V10 k2 k10
                have el : s 4 (4 * A + K) - s 9 (4 * C + K) = lm := by
                  rw [s4]
                  omega
                have ql := q_lack (h := s) (C := C) (A := A) (k := K) (by omega) eA bA hK4
                rw [el] at ql
                exact k10 _ _ _ ⟨(by unfold inR; omega), (by unfold inR; omega), bf (by omega) ⟨_, ql, _, q_count (by omega) hK4, (by unfold inR; omega), (by unfold inR; omega), 1, q_may1 ok (by omega) hC ⟨m1, m2, m3, m4⟩, R1, bf n10 ⟨(by unfold inR; omega), bf (by omega) ⟨_, q_lend bn (by omega) hC hK4 m1, z⟩⟩⟩⟩
              · intro V2 V37 V97 V98 V125 V137 k2 k37 k97 k98 k125 k137
                have z := q3 V2 V37 V97 V98 V125 V137 k2 k37 k97 k98 k125 k137
                have z137 : V137 m K lm x (imin lm (s 9 (4 * x + K))) := by
                  have i1 : (4 * (x : Int) + K).toNat = 4 * x + K := by omega
                  have i2 : (4 * (C : Int) + K).toNat = 4 * C + K := by omega
                  have eC : iupd (m 14) (4 * x + K) (m 14 (4 * x + K) - imin lm (s 9 (4 * x + K))) (4 * C + K) = m 14 (4 * C + K) := u_ne (by omega)
                  refine k137 _ _ _ _ _ ⟨(by unfold inR; omega), bf (by omega) ⟨by omega, fs N i5 rfl ⟨(show 0 ≤ m 0 24 ∧ m 0 24 < 64 by omega), fs N (show m 0 24 = N from i5) rfl ⟨(show 0 ≤ m 0 24 ∧ m 0 24 < 64 by omega), fs N (show m 0 24 = N from i5) rfl ⟨(show 0 ≤ m 0 24 ∧ m 0 24 < 64 by omega), fs N (show m 0 24 = N from i5) rfl (fa ⟨by omega, by omega, fs (4 * x + K) (by omega) rfl ⟨by omega, by omega, fs (4 * C + K) (by omega) (x' := m 14 (4 * C + K) + imin lm (s 9 (4 * x + K))) ?_ ⟨by omega, fs x rfl rfl ?_⟩⟩⟩)⟩⟩⟩⟩⟩
                  · rw [i2]
                    show iupd (m 14) (4 * x + K) (m 14 (4 * (x : Int) + K).toNat - imin lm (s 9 (4 * x + K))) (4 * C + K) + imin lm (s 9 (4 * x + K)) = _
                    rw [i1, eC]
                  · rw [i1]
                    have fin : iset (iset (iset (iset (iset (iset (iset (iset m 15 N C) 16 N K) 17 N x) 18 N (imin lm (s 9 (4 * x + K)))) 0 24 (m 0 24 + 1)) 14 (4 * x + K) (m 14 (4 * x + K) - imin lm (s 9 (4 * x + K)))) 14 (4 * C + K) (m 14 (4 * C + K) + imin lm (s 9 (4 * x + K)))) 13 x 2 = lentM m C x K N (imin lm (s 9 (4 * x + K))) := by
                      rw [i5]
                      rfl
                    rw [← fin] at z
                    exact z
                have z125 : V125 m K lm x (s 9 (4 * x + K)) := by
                  refine k125 _ _ _ _ _ ⟨(by unfold inR; omega), (by unfold inR; omega), ?_, ?_⟩
                  · intro u
                    by_cases u2 : s 9 (4 * x + K) < lm
                    · have e : imin lm (s 9 (4 * x + K)) = s 9 (4 * x + K) := by
                        unfold imin
                        rw [if_pos u2]
                      rw [e] at z137
                      exact z137
                    · have e : imin lm (s 9 (4 * x + K)) = s 9 (4 * x + K) := by
                        unfold imin
                        rw [if_neg u2]
                        omega
                      rw [e] at z137
                      exact z137
                  · intro u
                    have e : imin lm (s 9 (4 * x + K)) = lm := by
                      unfold imin
                      rw [if_neg (by omega)]
                    rw [e] at z137
                    exact z137
                have z98 : V98 m K lm x (s 9 (4 * x + K)) := by
                  refine k98 _ _ _ _ _ ⟨by omega, ?_⟩
                  rw [Int.toNat_natCast, e13]
                  refine ⟨(by unfold inR; omega), fun _ => z125, fun u => ⟨1, lt1 ?_, R1, nt n10 z125⟩⟩
                  rcases m4 with v | v
                  · rw [wh, if_pos v] at u
                    omega
                  · exact v
                refine k37 _ _ _ _ ⟨(by unfold inR; omega), (by unfold inR; omega), bf (by omega) ⟨(by unfold inR; omega), bf cl ⟨(by unfold inR; omega), (by unfold inR; omega), bf (by omega) ⟨by omega, by omega, ?_⟩⟩⟩⟩
                rw [Int.toNat_natCast, Int.toNat_natCast, m12, b12 x (by omega), b12 C hC, e13, e14]
                refine ⟨(by unfold inR; omega), (by unfold inR; omega), nf (by rw [← s5]; exact m2) ⟨by omega, (by unfold inR; omega), bf ?_ ⟨by omega, z98⟩⟩⟩
                rw [wh]
                split <;> omega
          · obtain ⟨s', m', N', q1, q2, q3⟩ := ih2 (x + 1) (by omega) s m N lm (sv_pos (fun d k hd hp => by omega) inv) elm
            refine ⟨s', m', N', q1, ?_, ?_⟩
            · intro V2 V10 k2 k10
              have z := q2 V2 V10 k2 k10
              exact k10 _ _ _ ⟨(by unfold inR; omega), (by unfold inR; omega), bf (by omega) ⟨_, q_lack (by omega) eA bA hK4, _, q_count (by omega) hK4, by rw [s4]; exact (by unfold inR; omega), (by unfold inR; omega), 0, q_may0 ok (by omega) hC cm, R0, bt rfl z⟩⟩
            · intro V2 V37 V97 V98 V125 V137 k2 k37 k97 k98 k125 k137
              have z := q3 V2 V37 V97 V98 V125 V137 k2 k37 k97 k98 k125 k137
              have z137 : V137 m K lm x 0 := k137 _ _ _ _ _ ⟨R0, bt (Int.le_refl 0) z⟩
              have z98 : ∀ t : Int, (m 13 x = 2 → s 7 x ≠ C) → (m 13 x ≠ 2 → t = 0) → V98 m K lm x t := by
                intro t h1 h2
                refine k98 _ _ _ _ _ ⟨by omega, ?_⟩
                rw [Int.toNat_natCast]
                refine ⟨by rw [e13]; exact (by unfold inR; omega), fun u => ?_, fun u => ⟨0, lt0 (h1 u), R0, nf rfl z137⟩⟩
                rw [h2 u]
                exact k125 _ _ _ _ _ ⟨R0, (by unfold inR; omega), bt (by omega) z137⟩
              have z97 : V97 m K lm x := by
                refine k97 _ _ _ _ ?_
                refine k98 _ _ _ _ _ ⟨by omega, ?_⟩
                rw [Int.toNat_natCast, e13]
                have z125 : V125 m K lm x 0 := k125 _ _ _ _ _ ⟨R0, (by unfold inR; omega), bt (by omega) z137⟩
                refine ⟨(by unfold inR; omega), fun _ => z125, fun u => ?_⟩
                by_cases v : s 7 x = C
                · exact ⟨1, lt1 v, R1, nt n10 z125⟩
                · exact ⟨0, lt0 v, R0, nf rfl z137⟩
              refine k37 _ _ _ _ ⟨(by unfold inR; omega), (by unfold inR; omega), bf (by omega) ⟨(by unfold inR; omega), bf cl ⟨(by unfold inR; omega), (by unfold inR; omega), fun _ => z97, fun u1 => ⟨by omega, by omega, ?_⟩⟩⟩⟩
              rw [Int.toNat_natCast, Int.toNat_natCast, m12, b12 x (by omega), b12 C hC]
              refine ⟨(by unfold inR; omega), (by unfold inR; omega), fun _ => z97, fun u2 => ⟨by omega, by rw [e13]; exact (by unfold inR; omega), fun _ => z97, fun u3 => ⟨by omega, ?_⟩⟩⟩
              have x6 : s 6 x = -1 := by
                by_cases v : s 6 x = -1
                · exact v
                · exfalso
                  rw [e13] at u3
                  unfold whr at u3
                  rw [if_neg v] at u3
                  exact u3 rfl
              have x7 : s 7 x ≠ -1 ∧ s 7 x ≠ C := by
                have := fun h => cm ⟨(show x ≠ C by omega), (by rw [s5]; exact u2), x6, h⟩
                exact ⟨fun h => this (Or.inl h), fun h => this (Or.inr h)⟩
              refine z98 _ (fun _ => x7.2) (fun u => ?_)
              exfalso
              rw [e13] at u
              unfold whr at u
              rw [if_pos x6, if_neg x7.1] at u
              exact u rfl
    have w := inv.2.2.2.1 C K hC hK4
    have w2 := hW C K hC hK4
    rw [c5, Int.toNat_natCast] at w w2
    obtain ⟨s', m', N', q1, q2, q3⟩ := inner n 0 (by omega) s m N _ inv rfl
    refine ⟨s', m', N', q1, ?_, ?_⟩
    · intro V2 V10 k2 k10
      exact k2 _ _ ⟨(by unfold inR; omega), bf (by omega) (q2 V2 V10 k2 k10)⟩
    · intro V2 V37 V97 V98 V125 V137 k2 k37 k97 k98 k125 k137
      have z := q3 V2 V37 V97 V98 V125 V137 k2 k37 k97 k98 k125 k137
      have m12 : m 12 = m0 12 := inv.2.1.1 12 (by decide) (by decide) (by decide) (by decide) (by decide) (by decide) (by decide)
      have m11 : m 11 = m0 11 := inv.2.1.1 11 (by decide) (by decide) (by decide) (by decide) (by decide) (by decide) (by decide)
      refine k2 _ _ ⟨(by unfold inR; omega), bf (by omega) ⟨by omega, ?_⟩⟩
      rw [Int.toNat_natCast, m12, b12 C hC, c5, m11]
      refine ⟨by omega, by omega, ?_⟩
      intro y ey
      have e11 : m0 11 (4 * (A : Int) + K).toNat = s0 4 (4 * A + K) := by
        rw [show (4 * (A : Int) + K).toNat = 4 * A + K by omega]
        exact b11 K hK4
      have e14 : m 14 (4 * (C : Int) + K).toNat = s 9 (4 * C + K) := by
        rw [show (4 * (C : Int) + K).toNat = 4 * C + K by omega]
        exact inv.2.2.1 _ (by omega)
      rw [e11, e14] at ey
      subst ey
      exact z
