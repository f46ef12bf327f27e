theorem q_rulesOf {hh hs hr hm : ISt} (hR : RelI hh hs hr hm) {A : Nat} (b : A < 8) : Q_X1_rulesOf hr A (hr 1 A) := by
  refine ⟨(by unfold inR; omega), ?_⟩
  rw [ina A b]
theorem q_putRule {h : ISt} {a2 a3 a4 a5 : Int} {A N : Nat} (b : A < 8) (e : h 1 A = N) (bN : N < 12) : Q_X1_putRule h A a2 a3 a4 a5 N (iset (iset (iset (iset (iset h 2 (12 * A + N) a2) 3 (12 * A + N) a3) 4 (12 * A + N) a4) 5 (12 * A + N) a5) 1 A (N + 1)) := by
  unfold Q_X1_putRule
  rw [ina A b, e]
  exact ⟨(by unfold inR; omega), (by unfold inR; omega), fp (12 * A + N) (by omega) (by omega) rfl ⟨(by unfold inR; omega), fp (12 * A + N) (by omega) (by omega) rfl ⟨(by unfold inR; omega), fp (12 * A + N) (by omega) (by omega) rfl ⟨(by unfold inR; omega), fp (12 * A + N) (by omega) (by omega) rfl ⟨(by unfold inR; omega), fp A rfl b rfl ⟨rfl, rfl⟩⟩⟩⟩⟩⟩
theorem si_addRule : SimI_addRule RelI := by
  intro hh hs hr hm a1 a2 a3 a4 a5 ha1 ha2 ha3 ha4 ha5 hR
  have hR0 := hR
  obtain ⟨hH, ⟨⟨e15, b15, b15'⟩, hS⟩, hO, hL, ⟨hF1, hF2, hF3⟩, hSc⟩ := hR
  by_cases c1 : 0 ≤ a1 ∧ a1 < hs 0 0
  · obtain ⟨A, eA⟩ := nat_of c1.1
    subst eA
    obtain ⟨r1, r2, r3⟩ := hF1 A (by omega)
    obtain ⟨N, eN⟩ := nat_of r2
    have eM : hm 23 A = N := by omega
    by_cases c2 : -1 ≤ a2 ∧ a2 < N
    · have up : ∀ (V28 : Prop) (ex : String → Prop), V28 → (a2 = -1 → V28) ∧ (¬ a2 = -1 → ∃ r2 : Int, Q_X1_rulesOf hr A r2 ∧ (inR a2 ∧ inR r2 ∧ (((¬ a2 < 0 ∧ a2 < r2) → V28) ∧ (¬ (¬ a2 < 0 ∧ a2 < r2) → ex E_i)))) := by
        intro V28 ex v
        exact ⟨fun _ => v, fun c => ⟨_, q_rulesOf hR0 (by omega), ha2, by rw [eN]; unfold inR; omega, fun _ => v, fun c' => absurd ⟨by omega, by omega⟩ c'⟩⟩
      by_cases c : (0 ≤ a3 ∧ a3 ≤ 3) ∧ (1 ≤ a4 ∧ a4 ≤ 300) ∧ (0 ≤ a5 ∧ a5 ≤ 99)
      · obtain ⟨c3, c4, c5⟩ := c
        by_cases cc : N = 12
        · refine ⟨0, iset hm 0 0 3, ?_, ?_⟩
          · intro V28 V29 V67 V68 V105 k28 k29 k67 k68 k105
            refine w1 (q_isTitle1 (by omega) (by omega) (by omega)) ⟨by omega, w1 (q_isIn1 ha2 (by unfold inR; omega) ?_ ?_) (k29 _ _ (w1 (q_isIn1 ha3 (by unfold inR; omega) (by unfold inR; omega) c3) (w1 (q_isIn1 ha4 (by unfold inR; omega) (by unfold inR; omega) c4) (w1 (q_isIn1 ha5 (by unfold inR; omega) (by unfold inR; omega) c5) (k68 _ _ _ ⟨R1, nt n10 ⟨R1, nt n10 ⟨by omega, ?_, nf ?_ (k105 _ _ (f1 (by unfold inR; omega) (by decide) ⟨rfl, rfl⟩))⟩⟩⟩)))))⟩
            · show inR (hm 23 A - 1)
              rw [eM]
              unfold inR
              omega
            · show -1 ≤ a2 ∧ a2 ≤ hm 23 A - 1
              omega
            · show inR (hm 23 A)
              rw [eM]
              unfold inR
              omega
            · show hm 23 A = 12
              omega
          · intro ok ex _ _ _ hex V28 V69 k28 k69
            refine ⟨ha1, (by unfold inR; omega), bt ⟨by omega, by omega⟩ ⟨ha2, up V28 ex ?_⟩⟩
            refine k28 ⟨ha3, bt ⟨by omega, by omega⟩ ⟨ha4, bt ⟨by omega, by omega⟩ ⟨ha5, bt ⟨by omega, by omega⟩ ⟨_, q_rulesOf hR0 (by omega), by rw [eN]; unfold inR; omega, bt (by omega) (k69 _ ⟨R0, bf (by simp) (hex rfl (rel_thrown hR0 3))⟩)⟩⟩⟩⟩
        · refine ⟨N, iset (iset (iset (iset (iset (iset hm 0 0 0) 19 (12 * A + N) a2) 20 (12 * A + N) a3) 21 (12 * A + N) a4) 22 (12 * A + N) a5) 23 A (N + 1), ?_, ?_⟩
          · intro V28 V29 V67 V68 V105 k28 k29 k67 k68 k105
            refine w1 (q_isTitle1 (by omega) (by omega) (by omega)) ⟨by omega, w1 (q_isIn1 ha2 (by unfold inR; omega) ?_ ?_) (k29 _ _ (w1 (q_isIn1 ha3 (by unfold inR; omega) (by unfold inR; omega) c3) (w1 (q_isIn1 ha4 (by unfold inR; omega) (by unfold inR; omega) c4) (w1 (q_isIn1 ha5 (by unfold inR; omega) (by unfold inR; omega) c5) (k68 _ _ _ ⟨R1, nt n10 ⟨R1, nt n10 ⟨by omega, ?_, nt ?_ (k105 _ _ (f0 ?_))⟩⟩⟩)))))⟩
            · show inR (hm 23 A - 1)
              rw [eM]
              unfold inR
              omega
            · show -1 ≤ a2 ∧ a2 ≤ hm 23 A - 1
              omega
            · show inR (hm 23 A)
              rw [eM]
              unfold inR
              omega
            · show ¬ hm 23 A = 12
              omega
            · have b : 0 ≤ 12 * (A : Int) + hm 23 A ∧ 12 * (A : Int) + hm 23 A < 96 := by omega
              have i : 12 * (A : Int) + hm 23 A = ((12 * A + N : Nat) : Int) := by omega
              refine ⟨by omega, b, fs (12 * A + N) i rfl ⟨b, fs (12 * A + N) i rfl ⟨b, fs (12 * A + N) i rfl ⟨b, fs (12 * A + N) i rfl ⟨by omega, by omega, fs A rfl (x' := (N : Int) + 1) ?_ ⟨by omega, ?_, rfl⟩⟩⟩⟩⟩⟩
              · show hm 23 A + 1 = N + 1
                omega
              · show (N : Int) = iupd (hm 23) A (N + 1) A - 1
                rw [u_eq]
                omega
          · intro ok ex hok _ _ _ V28 V69 k28 k69
            refine ⟨ha1, (by unfold inR; omega), bt ⟨by omega, by omega⟩ ⟨ha2, up V28 ex ?_⟩⟩
            refine k28 ⟨ha3, bt ⟨by omega, by omega⟩ ⟨ha4, bt ⟨by omega, by omega⟩ ⟨ha5, bt ⟨by omega, by omega⟩ ⟨_, q_rulesOf hR0 (by omega), by rw [eN]; unfold inR; omega, bf (by omega) (k69 _ ⟨R1, bt n10 ⟨_, _, q_putRule (by omega) eN (by omega), ?_⟩⟩)⟩⟩⟩⟩
            refine hok hh hs _ rfl ⟨hH, ⟨⟨e15, b15, b15'⟩, hS⟩, hO, hL, ⟨?_, ?_, ?_⟩, hSc⟩
            · intro t ht
              show iupd (hm 23) A (N + 1) t = iupd (hr 1) A (N + 1) t ∧ 0 ≤ iupd (hr 1) A (N + 1) t ∧ iupd (hr 1) A (N + 1) t ≤ 12
              by_cases c : t = A
              · subst c
                rw [u_eq, u_eq]
                omega
              · rw [u_ne c, u_ne c]
                exact hF1 t ht
            · intro t ht ht'
              show iupd (hr 1) A (N + 1) t = 0
              have ht : hs 0 0 ≤ t := ht
              rw [u_ne (by omega)]
              exact hF2 t ht ht'
            · intro t k ht hk
              have hk : (k : Int) < iupd (hr 1) A (N + 1) t := hk
              show (iupd (hm 19) (12 * A + N) a2 (12 * t + k) = iupd (hr 2) (12 * A + N) a2 (12 * t + k) ∧ -1 ≤ iupd (hr 2) (12 * A + N) a2 (12 * t + k) ∧ iupd (hr 2) (12 * A + N) a2 (12 * t + k) < k) ∧ (iupd (hm 20) (12 * A + N) a3 (12 * t + k) = iupd (hr 3) (12 * A + N) a3 (12 * t + k) ∧ 0 ≤ iupd (hr 3) (12 * A + N) a3 (12 * t + k) ∧ iupd (hr 3) (12 * A + N) a3 (12 * t + k) ≤ 3) ∧ (iupd (hm 21) (12 * A + N) a4 (12 * t + k) = iupd (hr 4) (12 * A + N) a4 (12 * t + k) ∧ 1 ≤ iupd (hr 4) (12 * A + N) a4 (12 * t + k) ∧ iupd (hr 4) (12 * A + N) a4 (12 * t + k) ≤ 300) ∧ (iupd (hm 22) (12 * A + N) a5 (12 * t + k) = iupd (hr 5) (12 * A + N) a5 (12 * t + k) ∧ 0 ≤ iupd (hr 5) (12 * A + N) a5 (12 * t + k) ∧ iupd (hr 5) (12 * A + N) a5 (12 * t + k) ≤ 99)
              by_cases c : t = A ∧ k = N
              · obtain ⟨c, c'⟩ := c
                subst c
                subst c'
                rw [u_eq, u_eq, u_eq, u_eq, u_eq, u_eq, u_eq, u_eq]
                omega
              · have f := (hF1 t ht).2
                have hk2 : (k : Int) < hr 1 t := by
                  by_cases c' : t = A
                  · subst c'
                    rw [u_eq] at hk
                    omega
                  · rw [u_ne c'] at hk
                    exact hk
                have d : 12 * t + k ≠ 12 * A + N := by omega
                rw [u_ne d, u_ne d, u_ne d, u_ne d, u_ne d, u_ne d, u_ne d, u_ne d]
                exact hF3 t k ht hk2
      · refine ⟨0, iset hm 0 0 2, ?_, ?_⟩
        · intro V28 V29 V67 V68 V105 k28 k29 k67 k68 k105
          have z68 : V68 hm 1 0 := k68 _ _ _ ⟨R1, nt n10 ⟨R0, nf rfl (k105 _ _ (f1 (by unfold inR; omega) (by decide) ⟨rfl, rfl⟩))⟩⟩
          have z67 : V67 hm 1 := k67 _ _ z68
          refine w1 (q_isTitle1 (by omega) (by omega) (by omega)) ⟨by omega, w1 (q_isIn1 ha2 (by unfold inR; omega) ?_ ?_) (k29 _ _ ?_)⟩
          · show inR (hm 23 A - 1)
            rw [eM]
            unfold inR
            omega
          · show -1 ≤ a2 ∧ a2 ≤ hm 23 A - 1
            omega
          · by_cases c3 : 0 ≤ a3 ∧ a3 ≤ 3
            · refine w1 (q_isIn1 ha3 (by unfold inR; omega) (by unfold inR; omega) c3) ?_
              by_cases c4 : 1 ≤ a4 ∧ a4 ≤ 300
              · exact w1 (q_isIn1 ha4 (by unfold inR; omega) (by unfold inR; omega) c4) (w0 (q_isIn0 ha5 (by unfold inR; omega) (by unfold inR; omega) (fun c5 => c ⟨c3, c4, c5⟩)) z67)
              · exact w0 (q_isIn0 ha4 (by unfold inR; omega) (by unfold inR; omega) c4) z67
            · exact w0 (q_isIn0 ha3 (by unfold inR; omega) (by unfold inR; omega) c3) z67
        · intro ok ex _ _ hex _ V28 V69 k28 k69
          have z : ex E_a := hex rfl (rel_thrown hR0 2)
          refine ⟨ha1, (by unfold inR; omega), bt ⟨by omega, by omega⟩ ⟨ha2, up V28 ex (k28 ?_)⟩⟩
          exact ⟨ha3, fun c3 => ⟨ha4, fun c4 => ⟨ha5, fun c5 => absurd ⟨⟨by omega, by omega⟩, ⟨by omega, by omega⟩, ⟨by omega, by omega⟩⟩ c, fun _ => z⟩, fun _ => z⟩, fun _ => z⟩
    · refine ⟨0, iset hm 0 0 1, ?_, ?_⟩
      · intro V28 V29 V67 V68 V105 k28 k29 k67 k68 k105
        have z68 : ∀ t : Int, V68 hm 0 t := fun t => k68 _ _ _ ⟨R0, nf rfl (k105 _ _ (f1 (by unfold inR; omega) (by decide) ⟨rfl, rfl⟩))⟩
        have z67 : V67 hm 0 := k67 _ _ (z68 0)
        refine w1 (q_isTitle1 (by omega) (by omega) (by omega)) ⟨by omega, w0 (q_isIn0 ha2 (by unfold inR; omega) ?_ ?_) (k28 _ (k29 _ _ ?_))⟩
        · show inR (hm 23 A - 1)
          rw [eM]
          unfold inR
          omega
        · show ¬ (-1 ≤ a2 ∧ a2 ≤ hm 23 A - 1)
          omega
        · by_cases c3 : 0 ≤ a3 ∧ a3 ≤ 3
          · refine w1 (q_isIn1 ha3 (by unfold inR; omega) (by unfold inR; omega) c3) ?_
            by_cases c4 : 1 ≤ a4 ∧ a4 ≤ 300
            · refine w1 (q_isIn1 ha4 (by unfold inR; omega) (by unfold inR; omega) c4) ?_
              by_cases c5 : 0 ≤ a5 ∧ a5 ≤ 99
              · exact w1 (q_isIn1 ha5 (by unfold inR; omega) (by unfold inR; omega) c5) (z68 1)
              · exact w0 (q_isIn0 ha5 (by unfold inR; omega) (by unfold inR; omega) c5) z67
            · exact w0 (q_isIn0 ha4 (by unfold inR; omega) (by unfold inR; omega) c4) z67
          · exact w0 (q_isIn0 ha3 (by unfold inR; omega) (by unfold inR; omega) c3) z67
      · intro ok ex _ hex _ _ V28 V69 k28 k69
        exact ⟨ha1, (by unfold inR; omega), bt ⟨by omega, by omega⟩ ⟨ha2, bf (by omega) ⟨_, q_rulesOf hR0 (by omega), ha2, by rw [eN]; unfold inR; omega, bf (by omega) (hex rfl (rel_thrown hR0 1))⟩⟩⟩
  · refine ⟨0, iset hm 0 0 1, ?_, ?_⟩
    · intro V28 V29 V67 V68 V105 k28 k29 k67 k68 k105
      have z68 : ∀ t : Int, V68 hm 0 t := fun t => k68 _ _ _ ⟨R0, nf rfl (k105 _ _ (f1 (by unfold inR; omega) (by decide) ⟨rfl, rfl⟩))⟩
      have z67 : V67 hm 0 := k67 _ _ (z68 0)
      refine w0 (q_isTitle0 ha1 (by omega) (by omega)) (k28 _ (k29 _ _ ?_))
      by_cases c3 : 0 ≤ a3 ∧ a3 ≤ 3
      · refine w1 (q_isIn1 ha3 (by unfold inR; omega) (by unfold inR; omega) c3) ?_
        by_cases c4 : 1 ≤ a4 ∧ a4 ≤ 300
        · refine w1 (q_isIn1 ha4 (by unfold inR; omega) (by unfold inR; omega) c4) ?_
          by_cases c5 : 0 ≤ a5 ∧ a5 ≤ 99
          · exact w1 (q_isIn1 ha5 (by unfold inR; omega) (by unfold inR; omega) c5) (z68 1)
          · exact w0 (q_isIn0 ha5 (by unfold inR; omega) (by unfold inR; omega) c5) z67
        · exact w0 (q_isIn0 ha4 (by unfold inR; omega) (by unfold inR; omega) c4) z67
      · exact w0 (q_isIn0 ha3 (by unfold inR; omega) (by unfold inR; omega) c3) z67
    · intro ok ex _ hex _ _ V28 V69 k28 k69
      exact ⟨ha1, (by unfold inR; omega), bf (by omega) (hex rfl (rel_thrown hR0 1))⟩
theorem q_count {h : ISt} {C k : Nat} (b : C < 16) (bk : k < 4) : Q_X3_count h C k (h 9 (4 * C + k)) := by
  refine ⟨(by unfold inR; omega), ?_⟩
  rw [ia (by omega) (by omega)]
  exact congrArg (h 9) (by omega)
theorem q_lack {h : ISt} {C A k : Nat} (b : C < 16) (e : h 5 C = A) (bA : A < 8) (bk : k < 4) : Q_X3_lack h C k (h 4 (4 * A + k) - h 9 (4 * C + k)) := by
  unfold Q_X3_lack
  rw [ina C b, e]
  refine ⟨(by unfold inR; omega), (by unfold inR; omega), (by unfold inR; omega), ?_⟩
  rw [ia (f := h 4) (by omega) (by omega), ia (f := h 9) (by omega) (by omega)]
  have e1 : (((A : Int) * 4 + k).toNat) = 4 * A + k := by omega
  have e2 : (((C : Int) * 4 + k).toNat) = 4 * C + k := by omega
  rw [e1, e2]
theorem q_change {h : ISt} {C k : Nat} {x : Int} (b : C < 16) (bk : k < 4) : Q_X3_change h C k x (iset h 9 (4 * C + k) (h 9 (4 * C + k) + x)) :=
  ⟨_, q_count b bk, (by unfold inR; omega), fp (4 * C + k) (by omega) (by omega) rfl rfl⟩
