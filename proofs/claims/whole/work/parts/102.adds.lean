theorem fp {h : ISt} {j N : Nat} {i x x' : Int} {P : ISt → Prop} (k : Nat) (hk : i = (k : Int)) (h1 : k < N) (hx : x = x') (p : P (iset h j k x')) : ∀ h2 : ISt, h2 = iput h j N i x → P h2 := by
  intro h2 e
  subst e
  subst hx
  have q : iput h j N i x = iset h j k x := by
    unfold iput iset iputf
    rw [if_pos ⟨by omega, by omega⟩, hk]
    rfl
  rw [q]
  exact p
theorem fs {h : ISt} {j : Nat} {i x x' : Int} {P : ISt → Prop} (k : Nat) (hk : i = (k : Int)) (hx : x = x') (p : P (iset h j k x')) : ∀ h2 : ISt, h2 = iset h j i.toNat x → P h2 := by
  intro h2 e
  subst e
  subst hx
  subst hk
  exact p
theorem u_eq (f : Nat → Int) (k : Nat) (x : Int) : iupd f k x k = x := by
  unfold iupd
  rw [if_pos rfl]
theorem u_ne {f : Nat → Int} {k n : Nat} {x : Int} (h : n ≠ k) : iupd f k x n = f n := by
  unfold iupd
  rw [if_neg h]
def u4 (f : Nat → Int) (p : Nat) (x0 x1 x2 x3 : Int) : Nat → Int := iupd (iupd (iupd (iupd f p x0) (p + 1) x1) (p + 2) x2) (p + 3) x3
theorem u4_ne {f : Nat → Int} {p : Nat} {x0 x1 x2 x3 : Int} {i : Nat} (h : i < p ∨ p + 3 < i) : u4 f p x0 x1 x2 x3 i = f i := by
  unfold u4
  rw [u_ne (by omega), u_ne (by omega), u_ne (by omega), u_ne (by omega)]
theorem u4_or (p i : Nat) (hi : i < p + 4) (x0 x1 x2 x3 : Int) : (i < p ∧ ∀ f, u4 f p x0 x1 x2 x3 i = f i) ∨ (i = p ∧ ∀ f, u4 f p x0 x1 x2 x3 i = x0) ∨ (i = p + 1 ∧ ∀ f, u4 f p x0 x1 x2 x3 i = x1) ∨ (i = p + 2 ∧ ∀ f, u4 f p x0 x1 x2 x3 i = x2) ∨ (i = p + 3 ∧ ∀ f, u4 f p x0 x1 x2 x3 i = x3) := by
  have c : i < p ∨ i = p ∨ i = p + 1 ∨ i = p + 2 ∨ i = p + 3 := by omega
  rcases c with c | c | c | c | c
  · exact Or.inl ⟨c, fun f => u4_ne (Or.inl c)⟩
  · subst c
    exact Or.inr (Or.inl ⟨rfl, fun f => by unfold u4; rw [u_ne (by omega), u_ne (by omega), u_ne (by omega), u_eq]⟩)
  · subst c
    exact Or.inr (Or.inr (Or.inl ⟨rfl, fun f => by unfold u4; rw [u_ne (by omega), u_ne (by omega), u_eq]⟩))
  · subst c
    exact Or.inr (Or.inr (Or.inr (Or.inl ⟨rfl, fun f => by unfold u4; rw [u_ne (by omega), u_eq]⟩)))
  · subst c
    exact Or.inr (Or.inr (Or.inr (Or.inr ⟨rfl, fun f => by unfold u4; rw [u_eq]⟩)))
theorem nat_of {a : Int} (h : 0 ≤ a) : ∃ n : Nat, a = n := ⟨a.toNat, by omega⟩
theorem si_addTable : SimI_addTable RelI := by
  intro hh hs hr hm a1 ha hR
  have hR0 := hR
  obtain ⟨⟨h1, ⟨e4, b4, b4'⟩, h10, hT, hT2, hT3, hG, hG0, hG3⟩, hS, hO, hL, hF⟩ := hR
  by_cases c1 : 2 ≤ a1 ∧ a1 ≤ 6
  · by_cases c2 : hh 0 1 = 10
    · refine ⟨0, iset hm 0 0 2, ?_, ?_⟩
      · intro V k
        exact y1 (q_isIn1 ha (by unfold inR; omega) (by unfold inR; omega) c1) ⟨(by unfold inR; omega), nf (by omega) (k _ _ (f1 (by unfold inR; omega) (by decide) ⟨rfl, rfl⟩))⟩
      · intro ok ex _ _ hex
        exact ⟨ha, bt ⟨by omega, by omega⟩ ⟨(by unfold inR; omega), bt (by omega) (bf (by simp) (hex rfl (rel_thrown hR0 2)))⟩⟩
    · obtain ⟨T, eT⟩ := nat_of b4
      refine ⟨hh 0 1, iset (iset (iset (iset hm 0 0 0) 1 T a1) 2 T (-1)) 0 4 (hm 0 4 + 1), ?_, ?_⟩
      · intro V k
        refine y1 (q_isIn1 ha (by unfold inR; omega) (by unfold inR; omega) c1) ⟨(by unfold inR; omega), nt (by omega) (k _ _ (f0 ⟨?_, fs T (show hm 0 4 = T by omega) rfl ⟨?_, fs T (show hm 0 4 = T by omega) rfl (fa ⟨?_, rfl⟩)⟩⟩))⟩
        · show 0 ≤ hm 0 4 ∧ hm 0 4 < 10
          omega
        · show 0 ≤ hm 0 4 ∧ hm 0 4 < 10
          omega
        · show hh 0 1 = hm 0 4 + 1 - 1
          omega
      · intro ok ex hok _ _
        refine ⟨ha, bt ⟨by omega, by omega⟩ ⟨(by unfold inR; omega), bf (by omega) (bt n10 ⟨hh 0 1, iset (iset hh 1 T a1) 0 1 (hh 0 1 + 1), ?_, hok _ hs hr rfl ⟨⟨h1, ⟨?_, ?_, ?_⟩, h10, hT, ?_, ?_, hG, hG0, hG3⟩, hS, hO, hL, hF⟩⟩)⟩⟩
        · refine ⟨(by unfold inR; omega), fp T eT (by omega) rfl (fa ⟨?_, rfl⟩)⟩
          show hh 0 1 = hh 0 1 + 1 - 1
          omega
        · show hm 0 4 + 1 = hh 0 1 + 1
          omega
        · show 0 ≤ hh 0 1 + 1
          omega
        · show hh 0 1 + 1 ≤ 10
          omega
        · intro t ht
          have ht : (t : Int) < hh 0 1 + 1 := ht
          show iupd (hm 2) T (-1) t = hh 2 t ∧ iupd (hm 1) T a1 t = iupd (hh 1) T a1 t ∧ 2 ≤ iupd (hh 1) T a1 t ∧ iupd (hh 1) T a1 t ≤ 6
          by_cases c : t = T
          · subst c
            rw [u_eq, u_eq, u_eq, hT3 t (by omega) (by omega)]
            omega
          · rw [u_ne c, u_ne c, u_ne c]
            exact hT2 t (by omega)
        · intro t ht ht'
          have ht : hh 0 1 + 1 ≤ t := ht
          exact hT3 t (by omega) ht'
  · refine ⟨0, iset hm 0 0 1, ?_, ?_⟩
    · intro V k
      exact y0 (q_isIn0 ha (by unfold inR; omega) (by unfold inR; omega) c1) (k _ _ (f1 (by unfold inR; omega) (by decide) ⟨rfl, rfl⟩))
    · intro ok ex _ hex _
      exact ⟨ha, bf (by omega) (hex rfl (rel_thrown hR0 1))⟩
theorem q_putTitle {h : ISt} {a1 a2 a3 : Int} {N : Nat} (e : h 0 0 = N) (b : N < 8) : Q_X3_putTitle h a1 a2 a3 N (iset (iset (iset (iset h 1 N a1) 2 N a2) 3 N a3) 0 0 (N + 1)) := by
  refine ⟨(by unfold inR; omega), fp N e b rfl ⟨?_, fp N (show h 0 0 = N from e) b rfl ⟨?_, fp N (show h 0 0 = N from e) b rfl (fa ⟨?_, ?_⟩)⟩⟩⟩
  · show inR (h 0 0)
    unfold inR
    omega
  · show inR (h 0 0)
    unfold inR
    omega
  · show (N : Int) = h 0 0 + 1 - 1
    omega
  · show _ = iset _ 0 0 (h 0 0 + 1)
    rw [e]
theorem q_setFull {h : ISt} {a3 : Int} {N k : Nat} (b : N < 8) (bk : k < 4) : Q_X3_setFull h N k a3 (iset h 4 (4 * N + k) a3) :=
  ⟨(by unfold inR; omega), fp (4 * N + k) (by omega) (by omega) rfl rfl⟩
theorem si_addTitle : SimI_addTitle RelI := by
  intro hh hs hr hm a1 a2 a3 a4 a5 a6 a7 ha1 ha2 ha3 ha4 ha5 ha6 ha7 hR
  have hR0 := hR
  obtain ⟨hH, ⟨⟨e15, b15, b15'⟩, h19, hS1, hS2, hS3, hS4, hS5, hS6, hS7⟩, hO, hL, ⟨hF1, hF2, hF3⟩, hSc⟩ := hR
  by_cases c : (1 ≤ a1 ∧ a1 ≤ 12) ∧ (a1 ≤ a2 ∧ a2 ≤ 12) ∧ (5 ≤ a3 ∧ a3 ≤ 300) ∧ (0 ≤ a4 ∧ a4 ≤ 9) ∧ (0 ≤ a5 ∧ a5 ≤ 9) ∧ (0 ≤ a6 ∧ a6 ≤ 9) ∧ (0 ≤ a7 ∧ a7 ≤ 9)
  · obtain ⟨c1, c2, c3, c4, c5, c6, c7⟩ := c
    by_cases cc : hs 0 0 = 8
    · refine ⟨0, iset hm 0 0 2, ?_, ?_⟩
      · intro V35 V36 V79 V80 V106 k35 k36 k79 k80 k106
        exact w1 (q_isIn1 ha1 (by unfold inR; omega) (by unfold inR; omega) c1) (w1 (q_isIn1 ha2 ha1 (by unfold inR; omega) c2) (w1 (q_isIn1 ha3 (by unfold inR; omega) (by unfold inR; omega) c3) (k36 _ _ ⟨R1, bf n10 (w1 (q_arePieces1 c4.1 c4.2) (w1 (q_arePieces1 c5.1 c5.2) (w1 (q_arePieces1 c6.1 c6.2) (w1 (q_arePieces1 c7.1 c7.2) (k80 _ _ ⟨R1, nt n10 ⟨(by unfold inR; omega), nf (by omega) (k106 _ _ (f1 (by unfold inR; omega) (by decide) ⟨rfl, rfl⟩))⟩⟩)))))⟩)))
      · intro ok ex _ _ hex V k
        exact ⟨ha1, bt ⟨by omega, by omega⟩ ⟨ha2, ha1, bt ⟨by omega, by omega⟩ ⟨ha3, bt ⟨by omega, by omega⟩ ⟨ha4, bt ⟨by omega, by omega⟩ ⟨ha5, bt ⟨by omega, by omega⟩ ⟨ha6, bt ⟨by omega, by omega⟩ ⟨ha7, bt ⟨by omega, by omega⟩ ⟨(by unfold inR; omega), bt (by omega) (k _ ⟨R0, bf (by simp) (hex rfl (rel_thrown hR0 2))⟩)⟩⟩⟩⟩⟩⟩⟩⟩
    · obtain ⟨N, eN⟩ := nat_of b15
      have eM : hm 0 15 = N := by omega
      refine ⟨N, iset (iset (iset (iset (iset (iset (iset (iset (iset hm 0 0 0) 8 N a1) 9 N a2) 10 N a3) 11 (4 * N) a4) 11 (4 * N + 1) a5) 11 (4 * N + 2) a6) 11 (4 * N + 3) a7) 0 15 (hm 0 15 + 1), ?_, ?_⟩
      · intro V35 V36 V79 V80 V106 k35 k36 k79 k80 k106
        refine w1 (q_isIn1 ha1 (by unfold inR; omega) (by unfold inR; omega) c1) (w1 (q_isIn1 ha2 ha1 (by unfold inR; omega) c2) (w1 (q_isIn1 ha3 (by unfold inR; omega) (by unfold inR; omega) c3) (k36 _ _ ⟨R1, bf n10 (w1 (q_arePieces1 c4.1 c4.2) (w1 (q_arePieces1 c5.1 c5.2) (w1 (q_arePieces1 c6.1 c6.2) (w1 (q_arePieces1 c7.1 c7.2) (k80 _ _ ⟨R1, nt n10 ⟨(by unfold inR; omega), nt (by omega) (k106 _ _ (f0 ?_))⟩⟩)))))⟩)))
        refine ⟨?_, fs N (show hm 0 15 = N from eM) rfl ⟨?_, fs N (show hm 0 15 = N from eM) rfl ⟨?_, fs N (show hm 0 15 = N from eM) rfl ⟨?_, fs (4 * N) (show 4 * hm 0 15 = ((4 * N : Nat) : Int) by omega) rfl ⟨?_, fs (4 * N + 1) (show 4 * hm 0 15 + 1 = ((4 * N + 1 : Nat) : Int) by omega) rfl ⟨?_, fs (4 * N + 2) (show 4 * hm 0 15 + 2 = ((4 * N + 2 : Nat) : Int) by omega) rfl ⟨?_, fs (4 * N + 3) (show 4 * hm 0 15 + 3 = ((4 * N + 3 : Nat) : Int) by omega) rfl (fa ⟨?_, rfl⟩)⟩⟩⟩⟩⟩⟩⟩
        · show 0 ≤ hm 0 15 ∧ hm 0 15 < 8
          omega
        · show 0 ≤ hm 0 15 ∧ hm 0 15 < 8
          omega
        · show 0 ≤ hm 0 15 ∧ hm 0 15 < 8
          omega
        · show 0 ≤ 4 * hm 0 15 ∧ 4 * hm 0 15 < 32
          omega
        · show 0 ≤ 4 * hm 0 15 + 1 ∧ 4 * hm 0 15 + 1 < 32
          omega
        · show 0 ≤ 4 * hm 0 15 + 2 ∧ 4 * hm 0 15 + 2 < 32
          omega
        · show 0 ≤ 4 * hm 0 15 + 3 ∧ 4 * hm 0 15 + 3 < 32
          omega
        · show (N : Int) = hm 0 15 + 1 - 1
          omega
      · intro ok ex hok _ _ V k
        refine ⟨ha1, bt ⟨by omega, by omega⟩ ⟨ha2, ha1, bt ⟨by omega, by omega⟩ ⟨ha3, bt ⟨by omega, by omega⟩ ⟨ha4, bt ⟨by omega, by omega⟩ ⟨ha5, bt ⟨by omega, by omega⟩ ⟨ha6, bt ⟨by omega, by omega⟩ ⟨ha7, bt ⟨by omega, by omega⟩ ⟨(by unfold inR; omega), bf (by omega) (k _ ⟨R1, bt n10 ?_⟩)⟩⟩⟩⟩⟩⟩⟩⟩
        refine ⟨_, _, q_putTitle eN (by omega), _, q_setFull (k := 0) (by omega) (by omega), _, q_setFull (k := 1) (by omega) (by omega), _, q_setFull (k := 2) (by omega) (by omega), _, q_setFull (k := 3) (by omega) (by omega), hok hh _ hr rfl ⟨hH, ⟨⟨?_, ?_, ?_⟩, h19, ?_, ?_, ?_, hS4, ?_, hS6, hS7⟩, hO, hL, ⟨hF1, ?_, hF3⟩, hSc⟩⟩
        · show hm 0 15 + 1 = (N : Int) + 1
          omega
        · show (0 : Int) ≤ (N : Int) + 1
          omega
        · show (N : Int) + 1 ≤ 8
          omega
        · intro t ht
          have ht : (t : Int) < (N : Int) + 1 := ht
          show (iupd (hm 8) N a1 t = iupd (hs 1) N a1 t ∧ 1 ≤ iupd (hs 1) N a1 t ∧ iupd (hs 1) N a1 t ≤ 12) ∧ (iupd (hm 9) N a2 t = iupd (hs 2) N a2 t ∧ 1 ≤ iupd (hs 2) N a2 t ∧ iupd (hs 2) N a2 t ≤ 12) ∧ (iupd (hm 10) N a3 t = iupd (hs 3) N a3 t ∧ 5 ≤ iupd (hs 3) N a3 t ∧ iupd (hs 3) N a3 t ≤ 300)
          by_cases c : t = N
          · subst c
            rw [u_eq, u_eq, u_eq, u_eq, u_eq, u_eq]
            omega
          · rw [u_ne c, u_ne c, u_ne c, u_ne c, u_ne c, u_ne c]
            exact hS1 t (by omega)
        · intro i hi
          have hi : (i : Int) < 4 * ((N : Int) + 1) := hi
          show u4 (hm 11) (4 * N) a4 a5 a6 a7 i = u4 (hs 4) (4 * N) a4 a5 a6 a7 i ∧ 0 ≤ u4 (hs 4) (4 * N) a4 a5 a6 a7 i ∧ u4 (hs 4) (4 * N) a4 a5 a6 a7 i ≤ 9
          rcases u4_or (4 * N) i (by omega) a4 a5 a6 a7 with ⟨c, q⟩ | ⟨c, q⟩ | ⟨c, q⟩ | ⟨c, q⟩ | ⟨c, q⟩
          · rw [q, q]
            exact hS2 i (by omega)
          all_goals
            rw [q, q]
            omega
        · intro x hx
          obtain ⟨⟨p1, p2, p3⟩, p4⟩ := hS3 x hx
          exact ⟨⟨p1, p2, show hs 5 x < (N : Int) + 1 by omega⟩, p4⟩
        · intro x k' hx hk'
          have p := hS5 x k' hx hk'
          obtain ⟨⟨p1, p2, p3⟩, p4⟩ := hS3 x hx
          show 0 ≤ hs 9 (4 * x + k') ∧ 0 ≤ hs 8 (4 * x + k') ∧ hs 9 (4 * x + k') + hs 8 (4 * x + k') ≤ u4 (hs 4) (4 * N) a4 a5 a6 a7 (4 * (hs 5 x).toNat + k')
          rw [u4_ne (Or.inl (by omega))]
          exact p
        · intro t ht ht'
          have ht : (N : Int) + 1 ≤ t := ht
          exact hF2 t (by omega) ht'
  · refine ⟨0, iset hm 0 0 1, ?_, ?_⟩
    · intro V35 V36 V79 V80 V106 k35 k36 k79 k80 k106
      have z80 : V80 hm 0 := k80 _ _ ⟨R0, nf rfl (k106 _ _ (f1 (by unfold inR; omega) (by decide) ⟨rfl, rfl⟩))⟩
      have z79 : V79 hm := k79 _ z80
      have z36 : V36 hm 0 := k36 _ _ ⟨R0, bt rfl z79⟩
      have z35 : V35 hm := k35 _ z36
      by_cases c1 : 1 ≤ a1 ∧ a1 ≤ 12
      · refine w1 (q_isIn1 ha1 (by unfold inR; omega) (by unfold inR; omega) c1) ?_
        by_cases c2 : a1 ≤ a2 ∧ a2 ≤ 12
        · refine w1 (q_isIn1 ha2 ha1 (by unfold inR; omega) c2) ?_
          by_cases c3 : 5 ≤ a3 ∧ a3 ≤ 300
          · refine w1 (q_isIn1 ha3 (by unfold inR; omega) (by unfold inR; omega) c3) (k36 _ _ ⟨R1, bf n10 ?_⟩)
            by_cases c4 : 0 ≤ a4 ∧ a4 ≤ 9
            · refine w1 (q_arePieces1 c4.1 c4.2) ?_
              by_cases c5 : 0 ≤ a5 ∧ a5 ≤ 9
              · refine w1 (q_arePieces1 c5.1 c5.2) ?_
                by_cases c6 : 0 ≤ a6 ∧ a6 ≤ 9
                · refine w1 (q_arePieces1 c6.1 c6.2) ?_
                  exact w0 (q_arePieces0 ha7 (fun c7 => c ⟨c1, c2, c3, c4, c5, c6, c7⟩)) z79
                · exact w0 (q_arePieces0 ha6 c6) z79
              · exact w0 (q_arePieces0 ha5 c5) z79
            · exact w0 (q_arePieces0 ha4 c4) z79
          · exact w0 (q_isIn0 ha3 (by unfold inR; omega) (by unfold inR; omega) c3) z35
        · exact w0 (q_isIn0 ha2 ha1 (by unfold inR; omega) c2) z35
      · exact w0 (q_isIn0 ha1 (by unfold inR; omega) (by unfold inR; omega) c1) z35
    · intro ok ex _ hex _ V k
      have z : ex E_a := hex rfl (rel_thrown hR0 1)
      exact ⟨ha1, fun c1 => ⟨ha2, ha1, fun c2 => ⟨ha3, fun c3 => ⟨ha4, fun c4 => ⟨ha5, fun c5 => ⟨ha6, fun c6 => ⟨ha7, fun c7 => absurd ⟨⟨by omega, by omega⟩, ⟨by omega, by omega⟩, ⟨by omega, by omega⟩, ⟨by omega, by omega⟩, ⟨by omega, by omega⟩, ⟨by omega, by omega⟩, ⟨by omega, by omega⟩⟩ c, fun _ => z⟩, fun _ => z⟩, fun _ => z⟩, fun _ => z⟩, fun _ => z⟩, fun _ => z⟩, fun _ => z⟩
