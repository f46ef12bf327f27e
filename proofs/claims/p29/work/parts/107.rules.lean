/-! RULINGS AND DEPTH -/
theorem q_lent_all {hs : ISt} {n C : Nat} (ho : CopyOk hs n) (hC : C < n) : Q_X3_piecesLentTo hs C (tot (lrow hs C) (4 * n)) := by
  have ho' := ho
  obtain ⟨en, bn, hrg⟩ := ho'
  intro V4 V15 k4 k15
  have key : ∀ (j d : Nat), d + j = n → V4 (tot (lrow hs C) (4 * d)) d := by
    intro j
    induction j with
    | zero =>
      intro d hd
      have hd : d = n := hd
      subst hd
      exact k4 _ _ ⟨(by unfold inR; omega), (by unfold inR; omega), bt (by omega) rfl⟩
    | succ j ih =>
      intro d hd
      have z := ih (d + 1) (by omega)
      have r := hrg d (by omega)
      have i7 : iat 16 (hs 7) d = hs 7 d := ina d (by omega)
      refine k4 _ _ ⟨(by unfold inR; omega), (by unfold inR; omega), bf (by omega) ?_⟩
      by_cases c : hs 7 d = C
      · have inner : ∀ (i k : Nat), k + i = 4 → V15 (tot (lrow hs C) (4 * d + k)) d k := by
          intro i
          induction i with
          | zero =>
            intro k hk
            have hk : k = 4 := hk
            subst hk
            exact k15 _ _ _ ⟨(by unfold inR; omega), bt (by omega) z⟩
          | succ i ih2 =>
            intro k hk
            have y := ih2 (k + 1) (by omega)
            refine k15 _ _ _ ⟨(by unfold inR; omega), bf (by omega) ⟨(by unfold inR; omega), ?_⟩⟩
            rw [i7]
            refine ⟨(by unfold inR; omega), (by unfold inR; omega), nf c ⟨(by unfold inR; omega), ?_⟩⟩
            have e : tot (lrow hs C) (4 * d + k) + iat 64 (hs 8) ((d : Int) * 4 + k) = tot (lrow hs C) (4 * d + (k + 1)) := by
              show _ = tot (lrow hs C) (4 * d + k) + lrow hs C (4 * d + k)
              have e1 : iat 64 (hs 8) ((d : Int) * 4 + k) = hs 8 (4 * d + k) := by
                rw [ia (by omega) (by omega)]
                exact congrArg (hs 8) (by omega)
              have e2 : lrow hs C (4 * d + k) = hs 8 (4 * d + k) := by
                unfold lrow
                rw [show (4 * d + k) / 4 = d by omega, if_pos c]
              rw [e1, e2]
            rw [e]
            exact y
        exact inner 4 0 rfl
      · have e : tot (lrow hs C) (4 * (d + 1)) = tot (lrow hs C) (4 * d) := by
          refine tot_z (4 * d) 4 (fun p h1 h2 => ?_)
          unfold lrow
          rw [show p / 4 = d by omega, if_neg c]
        rw [e] at z
        refine k15 _ _ _ ⟨R0, bf (by omega) ⟨(by unfold inR; omega), ?_⟩⟩
        rw [i7]
        exact ⟨(by unfold inR; omega), (by unfold inR; omega), nt c z⟩
  exact key n 0 (by omega)
/-- the loans to C, one by one, laid into a row -/
theorem lrow_b {s : ISt} {A n C : Nat} (si : ShelfI s A n) : ∀ p : Nat, p < 4 * n → 0 ≤ lrow s C p ∧ lrow s C p ≤ 9 := by
  obtain ⟨a1, a2, a3, a4, a5, a6, a7⟩ := si
  intro p hp
  have b := a6 (p / 4) (p % 4) (by omega) (by omega)
  have b5 := a5 (p / 4) (by omega)
  have b4 := a4 (4 * (s 5 (p / 4)).toNat + p % 4) (by omega)
  have e : 4 * (p / 4) + p % 4 = p := by omega
  rw [e] at b
  unfold lrow
  split <;> omega
def exW (post : Int → ISt → ISt → ISt → Prop) (hh hs hr : ISt) : String → Prop := fun E => (E = E_i ∧ post (-11) hh hs hr) ∨ (E = E_s ∧ post (-13) hh hs hr)
theorem on_0 {hh hs hr : ISt} {a b c : Int} {post : Int → ISt → ISt → ISt → Prop} (h : Q_X4_leave hh hs hr a post (exW post hh hs hr)) : Q_L_on hh hs hr 0 a b c post := ⟨(by unfold inR; omega), nf rfl h⟩
theorem on_1 {hh hs hr : ISt} {a b c : Int} {post : Int → ISt → ISt → ISt → Prop} (h : Q_X4_left hh hs hr a post (exW post hh hs hr)) : Q_L_on hh hs hr 1 a b c post := ⟨(by unfold inR; omega), nt (by omega) ⟨(by unfold inR; omega), nf rfl h⟩⟩
theorem on_2 {hh hs hr : ISt} {a b c : Int} {post : Int → ISt → ISt → ISt → Prop} (h : Q_X4_serve hh hs hr a b post (exW post hh hs hr)) : Q_L_on hh hs hr 2 a b c post := ⟨(by unfold inR; omega), nt (by omega) ⟨(by unfold inR; omega), nt (by omega) ⟨(by unfold inR; omega), nf rfl h⟩⟩⟩
theorem on_3 {hh hs hr : ISt} {a b c : Int} {post : Int → ISt → ISt → ISt → Prop} (h : Q_X4_giveBack hh hs hr a b c post (exW post hh hs hr)) : Q_L_on hh hs hr 3 a b c post := ⟨(by unfold inR; omega), nt (by omega) ⟨(by unfold inR; omega), nt (by omega) ⟨(by unfold inR; omega), nt (by omega) ⟨(by unfold inR; omega), nf rfl h⟩⟩⟩⟩
theorem on_4 {hh hs hr : ISt} {a b c : Int} {post : Int → ISt → ISt → ISt → Prop} (h : Q_X4_found hh hs hr a b c post (exW post hh hs hr)) : Q_L_on hh hs hr 4 a b c post := ⟨(by unfold inR; omega), nt (by omega) ⟨(by unfold inR; omega), nt (by omega) ⟨(by unfold inR; omega), nt (by omega) ⟨(by unfold inR; omega), nt (by omega) ⟨(by unfold inR; omega), nf rfl h⟩⟩⟩⟩⟩
theorem on_5 {hh hs hr : ISt} {a b c : Int} {post : Int → ISt → ISt → ISt → Prop} (h : Q_X4_ruling hh hs hr a post (exW post hh hs hr)) : Q_L_on hh hs hr 5 a b c post := ⟨(by unfold inR; omega), nt (by omega) ⟨(by unfold inR; omega), nt (by omega) ⟨(by unfold inR; omega), nt (by omega) ⟨(by unfold inR; omega), nt (by omega) ⟨(by unfold inR; omega), nt (by omega) ⟨(by unfold inR; omega), nf rfl h⟩⟩⟩⟩⟩⟩
theorem on_6 {hh hs hr : ISt} {a b c : Int} {post : Int → ISt → ISt → ISt → Prop} (h : Q_X4_rulingFromBelow hh hs hr a post (exW post hh hs hr)) : Q_L_on hh hs hr 6 a b c post := ⟨(by unfold inR; omega), nt (by omega) ⟨(by unfold inR; omega), nt (by omega) ⟨(by unfold inR; omega), nt (by omega) ⟨(by unfold inR; omega), nt (by omega) ⟨(by unfold inR; omega), nt (by omega) ⟨(by unfold inR; omega), nt (by omega) ⟨(by unfold inR; omega), nf rfl h⟩⟩⟩⟩⟩⟩⟩
theorem on_7 {hh hs hr : ISt} {a b c : Int} {post : Int → ISt → ISt → ISt → Prop} (h : Q_X4_offerAt hh hs hr a b post (exW post hh hs hr)) : Q_L_on hh hs hr 7 a b c post := ⟨(by unfold inR; omega), nt (by omega) ⟨(by unfold inR; omega), nt (by omega) ⟨(by unfold inR; omega), nt (by omega) ⟨(by unfold inR; omega), nt (by omega) ⟨(by unfold inR; omega), nt (by omega) ⟨(by unfold inR; omega), nt (by omega) ⟨(by unfold inR; omega), nt (by omega) ⟨(by unfold inR; omega), nf rfl h⟩⟩⟩⟩⟩⟩⟩⟩
theorem on_8 {hh hs hr : ISt} {a b c : Int} {post : Int → ISt → ISt → ISt → Prop} (h : Q_X4_arrive hh hs hr a b post (exW post hh hs hr)) : Q_L_on hh hs hr 8 a b c post := ⟨(by unfold inR; omega), nt (by omega) ⟨(by unfold inR; omega), nt (by omega) ⟨(by unfold inR; omega), nt (by omega) ⟨(by unfold inR; omega), nt (by omega) ⟨(by unfold inR; omega), nt (by omega) ⟨(by unfold inR; omega), nt (by omega) ⟨(by unfold inR; omega), nt (by omega) ⟨(by unfold inR; omega), nt (by omega) h⟩⟩⟩⟩⟩⟩⟩⟩
/-- going down and going up tell the same -/
theorem rulings_ex {hh hs hr : ISt} {T G A n g : Nat} (hi : HallI hh T G) (si : ShelfI hs A n) (bi : BooksI hr A) (hg : g < G) : ∃ r : Int, ((held hs n g = -1 ∧ r = -13) ∨ (held hs n g ≠ -1 ∧ -1 ≤ r ∧ r ≤ 99)) ∧ ∀ post : Int → ISt → ISt → ISt → Prop, post r hh hs hr → Q_L_on hh hs hr 5 g 0 0 post ∧ Q_L_on hh hs hr 6 g 0 0 post := by
  have bG := hi.2.2.1
  have bA := si.1
  have bn := si.2.1
  have qh := q_held si (by omega : g < 30)
  rcases held_or si g with ⟨e, _⟩ | ⟨c, e, hc, h6, _⟩
  · refine ⟨-13, Or.inl ⟨e, rfl⟩, fun post hp => ⟨on_5 (fun V k => ?_), on_6 (fun V k => ?_)⟩⟩
    · exact ⟨(by unfold inR; omega), (by unfold inR; omega), bt ⟨by omega, by omega⟩ ⟨_, qh, by rw [e]; exact (by unfold inR; omega), bt e (k 0 ⟨R0, fun d => absurd rfl d, fun _ => Or.inr ⟨rfl, hp⟩⟩)⟩⟩
    · exact ⟨(by unfold inR; omega), (by unfold inR; omega), bt ⟨by omega, by omega⟩ ⟨_, qh, by rw [e]; exact (by unfold inR; omega), bt e (k 0 ⟨R0, fun d => absurd rfl d, fun _ => Or.inr ⟨rfl, hp⟩⟩)⟩⟩
  · have ho := copy_ok si
    have b5 := si.2.2.2.2.1 c hc
    obtain ⟨B, eB⟩ := nat_of b5.1.1
    have bB : B < 8 := by omega
    obtain ⟨N, eN, hR⟩ := rules_ok bi bB
    have b3 := (hi.2.2.2.2.2.2.1 g hg).1
    have lb := left_b hi (by omega : g < 30)
    have tb := tot_b (4 * n) (lrow_b (C := c) si)
    have i5 : iat 16 (hs 5) c = B := by rw [ina c (by omega), eB]
    have qp : Q_X4_playedBy hh hs hr g B := ⟨_, qh, by rw [e]; exact (by unfold inR; omega), by rw [e, i5]⟩
    obtain ⟨off, eo⟩ : ∃ off : Nat → Int, off = fun k => hol (hr 3 (12 * B + k)) (hr 4 (12 * B + k)) (hh 3 g) (leftI hh g) (tot (lrow hs c) (4 * n)) := ⟨_, rfl⟩
    have i3 : iat 30 (hh 3) g = hh 3 g := ina g (by omega)
    have qo : Q_X1_holding hr B (hh 3 g) (leftI hh g) (tot (lrow hs c) (4 * n)) (oset off N) := by
      refine q_holding hR b3 (by unfold inR; omega) (by unfold inR; omega) (fun k hk => ⟨by rw [eo], ?_⟩)
      have z := bi.2.2 B k bB (by omega)
      exact ⟨z.2.1, z.2.2.1⟩
    have qf : Q_X4_holdingFor hh hs hr g (oset off N) := by
      refine ⟨_, qh, tot (lrow hs c) (4 * n), by rw [e]; exact q_lent_all ho hc, B, qp, (by unfold inR; omega), leftI hh g, q_minutesLeft hi (by omega), oset off N, by rw [i3]; exact qo, rfl⟩
    have ru : RuOk hr B N (fun k => hr 2 (12 * B + k)) off := ⟨hR, fun k hk => ⟨rfl, hR.2.2.2 k hk⟩⟩
    refine ⟨rul (fun k => hr 5 (12 * B + k)) (rch (fun k => hr 2 (12 * B + k)) off N 12), Or.inr ⟨by rw [e]; omega, ?_⟩, fun post hp => ⟨on_5 (fun V k => ?_), on_6 (fun V k => ?_)⟩⟩
    · have rb := rch_b ru 12
      unfold rul
      split
      · omega
      · have z := (bi.2.2 B (rch (fun k => hr 2 (12 * B + k)) off N 12).toNat bB (by omega)).2.2.2
        show -1 ≤ hr 5 (12 * B + (rch (fun k => hr 2 (12 * B + k)) off N 12).toNat) ∧ hr 5 (12 * B + (rch (fun k => hr 2 (12 * B + k)) off N 12).toNat) ≤ 99
        omega
    · exact ⟨(by unfold inR; omega), (by unfold inR; omega), bt ⟨by omega, by omega⟩ ⟨_, qh, by rw [e]; exact (by unfold inR; omega), bf (by rw [e]; omega) (k 1 ⟨R1, fun _ => ⟨_, qp, _, qf, _, q_down ru, hp⟩, fun d => absurd n10 d⟩)⟩⟩
    · exact ⟨(by unfold inR; omega), (by unfold inR; omega), bt ⟨by omega, by omega⟩ ⟨_, qh, by rw [e]; exact (by unfold inR; omega), bf (by rw [e]; omega) (k 1 ⟨R1, fun _ => ⟨_, qp, _, qf, _, q_up ru, hp⟩, fun d => absurd n10 d⟩)⟩⟩
/-! depth -/
theorem imax_b (a b : Int) : a ≤ imax a b ∧ b ≤ imax a b ∧ (imax a b = a ∨ imax a b = b) := by
  unfold imax
  split <;> omega
theorem mxd_l (f : Nat → Int) (p : Nat) : ∀ (j x : Nat) (s : Int), mxd f p (j + 1) x s = imax (mxd f p j x s) (dep f p 12 ((x + j : Nat) : Int)) := by
  intro j
  induction j with
  | zero => intro x s; rfl
  | succ j ih =>
    intro x s
    show mxd f p (j + 1) (x + 1) (imax s (dep f p 12 x)) = imax (mxd f p j (x + 1) (imax s (dep f p 12 x))) _
    rw [ih (x + 1) (imax s (dep f p 12 x)), show x + 1 + j = x + (j + 1) by omega]
theorem mxd_ge (f : Nat → Int) (p : Nat) : ∀ (j k : Nat), k < j → dep f p 12 k ≤ mxd f p j 0 0 := by
  intro j
  induction j with
  | zero => intro k h; omega
  | succ j ih =>
    intro k h
    have b := imax_b (mxd f p j 0 0) (dep f p 12 ((0 + j : Nat) : Int))
    rw [mxd_l]
    by_cases c : k = j
    · subst c
      rw [show 0 + k = k by omega] at b ⊢
      omega
    · have := ih k (by omega)
      omega
theorem mxd_b (f : Nat → Int) (p : Nat) : ∀ j : Nat, 0 ≤ mxd f p j 0 0 ∧ mxd f p j 0 0 ≤ 12 := by
  intro j
  induction j with
  | zero => exact ⟨by show (0 : Int) ≤ 0; omega, by show (0 : Int) ≤ 12; omega⟩
  | succ j ih =>
    rw [mxd_l]
    have b := imax_b (mxd f p j 0 0) (dep f p 12 ((0 + j : Nat) : Int))
    have d := dep_b f p 12 ((0 + j : Nat) : Int)
    omega
theorem dep_e {f g : Nat → Int} {p N : Nat} (h1 : ∀ k : Nat, k < N → f (p + k) = g (p + k)) (h2 : ∀ k : Nat, k < N → -1 ≤ f (p + k) ∧ f (p + k) < k) : ∀ (j : Nat) (x : Int), -1 ≤ x → x < N → dep g p j x = dep f p j x := by
  intro j
  induction j with
  | zero => intro x _ _; rfl
  | succ j ih =>
    intro x x0 x1
    show (if x = -1 then 0 else 1 + dep g p j (g (p + x.toNat))) = (if x = -1 then 0 else 1 + dep f p j (f (p + x.toNat)))
    by_cases c : x = -1
    · rw [if_pos c, if_pos c]
    · rw [if_neg c, if_neg c, ← h1 x.toNat (by omega)]
      have := h2 x.toNat (by omega)
      rw [ih _ this.1 (by omega)]
theorem dep_m (f : Nat → Int) (p : Nat) : ∀ (j : Nat) (x : Int), dep f p j x ≤ dep f p (j + 1) x := by
  intro j
  induction j with
  | zero => intro x; exact (dep_b f p (0 + 1) x).1
  | succ j ih =>
    intro x
    show (if x = -1 then 0 else 1 + dep f p j (f (p + x.toNat))) ≤ (if x = -1 then 0 else 1 + dep f p (j + 1) (f (p + x.toNat)))
    have := ih (f (p + x.toNat))
    split <;> omega
theorem mxd_e {f g : Nat → Int} {p N : Nat} (h1 : ∀ k : Nat, k < N → f (p + k) = g (p + k)) (h2 : ∀ k : Nat, k < N → -1 ≤ f (p + k) ∧ f (p + k) < k) : ∀ j : Nat, j ≤ N → mxd g p j 0 0 = mxd f p j 0 0 := by
  intro j
  induction j with
  | zero => intro _; rfl
  | succ j ih =>
    intro h
    rw [mxd_l, mxd_l, ih (by omega), dep_e h1 h2 12 _ (by omega) (by omega)]
/-- one rule more -/
theorem depth_more {f : Nat → Int} {p N : Nat} {u : Int} (h2 : ∀ k : Nat, k < N → -1 ≤ f (p + k) ∧ f (p + k) < k) (u0 : -1 ≤ u) (u1 : u < N) : mxd f p N 0 0 ≤ mxd (iupd f (p + N) u) p (N + 1) 0 0 ∧ mxd (iupd f (p + N) u) p (N + 1) 0 0 ≤ mxd f p N 0 0 + 1 ∧ (if u < 0 then (1 : Int) else 2) ≤ mxd (iupd f (p + N) u) p (N + 1) 0 0 := by
  have h1 : ∀ k : Nat, k < N → f (p + k) = iupd f (p + N) u (p + k) := fun k hk => by rw [u_ne (by omega)]
  have e := mxd_e h1 h2 N (Nat.le_refl _)
  have d : dep (iupd f (p + N) u) p 12 ((0 + N : Nat) : Int) = 1 + dep f p 11 u := by
    show (if ((0 + N : Nat) : Int) = -1 then 0 else 1 + dep (iupd f (p + N) u) p 11 (iupd f (p + N) u (p + ((0 + N : Nat) : Int).toNat))) = _
    rw [if_neg (by omega), Int.toNat_natCast, show 0 + N = N by omega, u_eq, dep_e h1 h2 11 u u0 u1]
  have b := imax_b (mxd (iupd f (p + N) u) p N 0 0) (dep (iupd f (p + N) u) p 12 ((0 + N : Nat) : Int))
  rw [mxd_l]
  rw [e, d] at b ⊢
  have mb := mxd_b f p N
  by_cases c : u < 0
  · have c : u = -1 := by omega
    subst c
    have z : dep f p 11 (-1) = 0 := rfl
    rw [if_pos (by omega)]
    omega
  · obtain ⟨k, ek⟩ := nat_of (by omega : 0 ≤ u)
    subst ek
    have g := mxd_ge f p N k (by omega)
    have m : dep f p 11 k ≤ dep f p 12 k := dep_m f p 11 k
    have z : 1 ≤ dep f p 11 (k : Int) := by
      show 1 ≤ (if (k : Int) = -1 then 0 else 1 + dep f p 10 (f (p + (k : Int).toNat)))
      rw [if_neg (by omega)]
      have := dep_b f p 10 (f (p + (k : Int).toNat))
      omega
    rw [if_neg c]
    omega
/-- how deep a book is -/
def dpt (r : ISt) (t : Nat) : Int := mxd (r 2) (12 * t) (r 1 t).toNat 0 0
theorem q_dpt {hh hs hr : ISt} {A t : Nat} (eA : hs 0 0 = A) (bA : A ≤ 8) (bi : BooksI hr A) (ht : t < A) : Qn_X4_depth hh hs hr t (dpt hr t) := by
  obtain ⟨N, eN, hR⟩ := rules_ok bi (by omega : t < 8)
  refine ⟨(by unfold inR; omega), (by unfold inR; omega), ⟨by omega, by omega⟩, _, q_deepest hR, ?_⟩
  unfold dpt
  rw [eN, Int.toNat_natCast]
