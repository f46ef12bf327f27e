/-! THE LAW: its turns -/
set_option maxHeartbeats 8000000 in
theorem q_law (L0 : Nat) (hL : L0 ≤ 260) {hh hs hr ha : ISt} (L : LawI hh hs hr ha 0 0 0 0) (m0 : hh 0 0 = 0) : Q_L_law L0 hh hs hr ha := by
  intro V78 V79 V116 V160 V218 V234 V250 V266 V330 V331 V339 V421 V549 V611 V644 V658 V749 V756 V757 V771 V806 V866 V876 V895 V903 V904 V919 V987 V1020 V1108 V1147 V1148 V1172 V1173 V1198 V1208 V1261 V1265 V1266 V1290 V1358 V1461 V1489 V1522 V1559 V1672 V1770 V1795 V1818 V1836 V1837 V1897 V1912 k78 k79 k116 k160 k218 k234 k250 k266 k330 k331 k339 k421 k549 k611 k644 k658 k749 k756 k757 k771 k806 k866 k876 k895 k903 k904 k919 k987 k1020 k1108 k1147 k1148 k1172 k1173 k1198 k1208 k1261 k1265 k1266 k1290 k1358 k1461 k1489 k1522 k1559 k1672 k1770 k1795 k1818 k1836 k1837 k1897 k1912
  have turns : ∀ (j : Nat) (u k : Nat) (x14 : Nat) (hh hs hr ha : ISt) (T A n G : Nat), u + j = x14 → x14 ≤ 210 → LawI hh hs hr ha T A n G → k ≤ 40 * u → Early u hh T A n → V116 k hh hs hr ha T G A n 1 x14 u := by
    intro j
    induction j with
    | zero =>
      intro u k x14 hh hs hr ha T A n G h1 h2 L hk E
      have h1 : u = x14 := h1
      subst h1
      exact k116 _ _ _ _ _ _ _ _ _ _ _ _ ⟨(by unfold inR; omega), (by unfold inR; omega), bt (by omega) ⟨by omega, rfl⟩⟩
    | succ j ih =>
      intro u k x14 hh hs hr ha T A n G h1 h2 L hk E
      -- the end of a turn
      have tail : ∀ (k' : Nat) (y : Int), (0 ≤ y ∧ y ≤ 268435455) → ∀ (hh hs hr ha : ISt) (T A n G : Nat), LawI hh hs hr ha T A n G → k' ≤ k + 33 → Early (u + 1) hh T A n → V1837 k' hh hs hr ha T G A n x14 u y 1 := by
        intro k' y hy hh hs hr ha T A n G L hk' E
        obtain ⟨li, ls, lt, lb, lh, lss, lr⟩ := id L
        have bG := li.2.2.1
        have next : ∀ k'' : Nat, k'' ≤ k + 40 → V116 k'' hh hs hr ha T G A n 1 x14 ((u : Int) + 1) := by
          intro k'' h''
          have z := ih (u + 1) k'' x14 hh hs hr ha T A n G (by omega) h2 L (by omega) E
          rw [show ((u + 1 : Nat) : Int) = (u : Int) + 1 by omega] at z
          exact z
        refine k1837 _ _ _ _ _ _ _ _ _ _ _ _ _ ⟨R1, bf n10 ⟨(by unfold inR; omega), fun _ => next k' (by omega), fun cG => ⟨⟨by omega, by omega⟩, ⟨by omega, by omega⟩, fun z71 a71 b71 => ⟨⟨by omega, by omega⟩, ⟨by omega, by omega⟩, fun z72 a72 b72 c72 => ?_⟩⟩⟩⟩
        obtain ⟨g, eg⟩ := nat_of a72
        subst eg
        have gG : g < G := by omega
        have ig : (g : Int).toNat = g := Int.toNat_natCast g
        obtain ⟨r, hr1, hr2⟩ := rulings_ex li ls lb gG
        have hb : -1 ≤ held hs n g ∧ held hs n g < 16 := by
          have := ls.2.1
          rcases held_or ls g with ⟨e, _⟩ | ⟨c, e, hc, _⟩
          · omega
          · omega
        have v1912 : ∀ t : Int, inR t → V1912 (k' + 1 + 1) hh hs hr ha T G A n x14 u g r t t := by
          intro t rt
          refine k1912 _ _ _ _ _ _ _ _ _ _ _ _ _ _ _ ⟨rt, rt, nf rfl ⟨(by unfold inR; omega), bf (by omega) ⟨⟨by omega, by omega⟩, ⟨by omega, by omega⟩, fun z114 a114 b114 c114 => ⟨(by unfold inR; omega), fun _ => next _ (by omega), fun _ => ⟨⟨by omega, by omega⟩, by omega, ?_⟩⟩⟩⟩⟩
          rw [ig, lh.2.1 g gG]
          exact q_areOffers li ls lss gG ⟨R1, bf n10 (next _ (by omega))⟩
        have v1897 : ∀ t : Int, ((held hs n g = -1 ∧ t = 1) ∨ (held hs n g ≠ -1 ∧ t = 0)) → V1897 (k' + 1 + 1) hh hs hr ha T G A n x14 u g r t := by
          intro t ht
          refine k1897 _ _ _ _ _ _ _ _ _ _ _ _ _ _ ⟨by omega, _, n_copyOf li ls gG, (by unfold inR; omega), fun c => ?_, fun c => ?_⟩
          · have e : t = 0 := by omega
            rw [e]
            exact v1912 0 R0
          · have e : t = 1 := by omega
            rw [e]
            exact v1912 1 R1
        refine ⟨by omega, (hr2 _ ?_).1⟩
        refine ⟨by omega, (hr2 _ ?_).2⟩
        exact ⟨(by unfold inR; omega), (by unfold inR; omega), nf rfl ⟨(by unfold inR; omega), fun c => v1897 0 (Or.inr ⟨by omega, rfl⟩), fun c => v1897 1 (Or.inl ⟨by omega, rfl⟩)⟩⟩
      -- the checks of a turn
      have hE : ∀ y : Int, (0 ≤ y ∧ y ≤ 268435455) → EndV V1770 k x14 y u := by
        intro y hy k' hh hs hr ha T A n G L hk' E
        obtain ⟨li, ls, lt, lb, lh, lss, lr⟩ := id L
        have v1818 : ∀ k'' : Nat, k'' ≤ k + 33 → V1818 k'' hh hs hr ha T G A n x14 u y := by
          intro k'' h''
          exact k1818 _ _ _ _ _ _ _ _ _ _ _ _ ⟨⟨by omega, by omega⟩, ⟨by omega, by omega⟩, fun z81 a81 b81 c81 => ⟨by omega, 1, q_isWaste li (by omega), R1, bf n10 (tail k'' y hy hh hs hr ha T A n G L h'' E)⟩⟩
        have v1795 : ∀ k'' : Nat, k'' ≤ k + 33 → V1795 k'' hh hs hr ha T G A n x14 u y := by
          intro k'' h''
          exact k1795 _ _ _ _ _ _ _ _ _ _ _ _ ⟨⟨by omega, by omega⟩, ⟨by omega, by omega⟩, fun z53 a53 b53 c53 => ⟨(by unfold inR; omega), fun _ => v1818 k'' h'', fun _ => ⟨by omega, 1, q_areCopies li ls lt lss, R1, bf n10 (v1818 k'' h'')⟩⟩⟩
        exact k1770 _ _ _ _ _ _ _ _ _ _ _ _ _ ⟨R1, bf n10 ⟨⟨by omega, by omega⟩, ⟨by omega, by omega⟩, fun z44 a44 b44 c44 => ⟨(by unfold inR; omega), fun _ => v1795 k' (by omega), fun _ => ⟨by omega, q_areTables li ls lt lh ⟨R1, bf n10 (v1795 (k' + 30) (by omega))⟩⟩⟩⟩⟩
      -- the deed of a turn
      have deed : ∀ (y d : Int), (0 ≤ y ∧ y ≤ 268435455) → Deed u d → V218 k hh hs hr ha T G A n 1 x14 u y d := by
        intro y d hy hd
        have hE := hE y hy
        have bd : 0 ≤ d ∧ d ≤ 15 := ⟨hd.1, hd.2.1⟩
        obtain ⟨li, ls, lt, lb, lh, lss, lr⟩ := id L
        have bT := li.2.1
        have bG := li.2.2.1
        have bA := ls.1
        have bn := ls.2.1
        obtain ⟨E1, E2, E3, E4, E5⟩ := id E
        have chain : ∀ g t c : Int, Pick g G → Pick t A → Pick c n → V266 k hh hs hr ha T G A n 1 x14 u y d g t c := by
          intro g t c hg ht hc
          refine br_table k266 k331 hE (by omega) hy L (by omega) E hd (fun n0 z hz0 hz4 => ?_)
          refine br_title k339 k421 hE (by omega) hy L (by omega) E hd (fun n1 => ?_)
          refine br_copy k549 hE (by omega) L (by omega) E hd ht (fun n2 => ?_)
          have u4 : 4 ≤ u := by
            have h3 := hd.2.2.1
            have h4 := hd.2.2.2.1
            omega
          refine br_rule k611 k644 k658 k749 k757 hE (by omega) hy L (by omega) E hd ht ⟨fun e => by omega, fun e => by omega, fun e => by omega⟩ ?_
          refine br_arrive k771 k806 k866 k876 k895 k904 k919 hE (by omega) hy L (by omega) E u4 hd (fun _ => ?_)
          refine br_pass k987 k1020 hE (by omega) (by omega) hy L (by omega) E u4 hd hg ?_
          refine br_leave k1108 k1147 k1148 k1172 k1173 k1198 k1208 k1261 k1266 hE (by omega) L (by omega) E u4 hd hg ?_
          refine br_serve k1290 k1358 k1461 hE (by omega) (by omega) L (by omega) E u4 hd hg ht ⟨hz0, hz4⟩ ?_
          refine br_back k1489 k1522 k1559 hE (by omega) hy L (by omega) E u4 hd hg ⟨hz0, hz4⟩ ?_
          exact br_found k1672 hE (by omega) hy L (by omega) E u4 hd hc ⟨hz0, hz4⟩
        have v250 : ∀ g t : Int, Pick g G → Pick t A → V250 k hh hs hr ha T G A n 1 x14 u y d g t := by
          intro g t hg ht
          refine k250 _ _ _ _ _ _ _ _ _ _ _ _ _ _ _ _ ⟨(by unfold inR; omega), fun _ => ⟨⟨by omega, by omega⟩, ⟨by omega, by omega⟩, fun z a b _ => chain g t z hg ht ⟨a, Or.inl b⟩⟩, fun e => chain g t 0 hg ht ⟨by omega, Or.inr ⟨by omega, rfl⟩⟩⟩
        have v234 : ∀ g : Int, Pick g G → V234 k hh hs hr ha T G A n 1 x14 u y d g := by
          intro g hg
          refine k234 _ _ _ _ _ _ _ _ _ _ _ _ _ _ _ ⟨(by unfold inR; omega), fun _ => ⟨⟨by omega, by omega⟩, ⟨by omega, by omega⟩, fun z a b _ => v250 g z hg ⟨a, Or.inl b⟩⟩, fun e => v250 g 0 hg ⟨by omega, Or.inr ⟨by omega, rfl⟩⟩⟩
        exact k218 _ _ _ _ _ _ _ _ _ _ _ _ _ _ ⟨(by unfold inR; omega), fun _ => ⟨⟨by omega, by omega⟩, ⟨by omega, by omega⟩, fun z a b _ => v234 z ⟨a, Or.inl b⟩⟩, fun e => v234 0 ⟨by omega, Or.inr ⟨by omega, rfl⟩⟩⟩
      have v160 : ∀ x : Int, V160 k hh hs hr ha T G A n 1 x14 u x := by
        intro x
        refine k160 _ _ _ _ _ _ _ _ _ _ _ _ _ (fun z4 _ z5 a5 b5 => ⟨(by unfold inR; omega), fun c3 => ⟨(by unfold inR; omega), fun c5 => ⟨(by unfold inR; omega), fun c9 => ⟨(by unfold inR; omega), fun c11 z6 a6 b6 => deed z5 z6 ⟨a5, b5⟩ ?_, fun c11 => deed z5 4 ⟨a5, b5⟩ ?_⟩, fun c9 => deed z5 2 ⟨a5, b5⟩ ?_⟩, fun c5 => deed z5 1 ⟨a5, b5⟩ ?_⟩, fun c3 => deed z5 0 ⟨a5, b5⟩ ?_⟩)
        · unfold Deed; omega
        · unfold Deed; omega
        · unfold Deed; omega
        · unfold Deed; omega
        · unfold Deed; omega
      exact k116 _ _ _ _ _ _ _ _ _ _ _ _ ⟨(by unfold inR; omega), (by unfold inR; omega), bf (by omega) ⟨R1, bf n10 ⟨(by unfold inR; omega), (by unfold inR; omega), fun _ => v160 _, fun c => ⟨⟨by omega, by omega⟩, fun z3 _ => v160 z3⟩⟩⟩⟩
  have v79 : V79 0 hh hs hr ha 0 0 0 0 1 := by
    have st : ∀ x14 : Nat, x14 ≤ 210 → V116 0 hh hs hr ha 0 0 0 0 1 x14 0 := fun x14 h => turns x14 0 0 x14 hh hs hr ha 0 0 0 0 (by omega) h L (by omega) ⟨by omega, by omega, by omega, fun h => absurd h (by omega), by omega⟩
    refine k79 _ _ _ _ _ _ _ _ _ _ ⟨(by unfold inR; omega), fun c => ⟨(by unfold inR; omega), fun c2 => st 210 (by omega), fun c2 => ?_⟩, fun c => st 150 (by omega)⟩
    have z := st (2 * L0) (by omega)
    rw [show ((2 * L0 : Nat) : Int) = 2 * (L0 : Int) by omega] at z
    exact z
  have w0 : Q_X4_waiting hh hs hr 0 := n_waiting L.1
  refine ⟨by omega, _, m0.symm, R0, nf rfl ⟨by omega, 0, w0, R0, nf rfl v79⟩⟩
