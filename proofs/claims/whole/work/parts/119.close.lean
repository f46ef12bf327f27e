theorem psum_b (f : Nat → Int) : ∀ n : Nat, 0 ≤ psum f n ∧ psum f n ≤ n := by
  intro n
  induction n with
  | zero => exact ⟨Int.le_refl 0, Int.le_refl 0⟩
  | succ n ih =>
    unfold psum
    split <;> omega
theorem psum_n (f : Nat → Int) (k : Nat) (x : Int) : ∀ n : Nat, n ≤ k → psum (iupd f k x) n = psum f n := by
  intro n
  induction n with
  | zero => intro _; rfl
  | succ n ih =>
    intro h
    unfold psum
    rw [ih (by omega), u_ne (by omega)]
theorem psum_u (f : Nat → Int) (k : Nat) (x : Int) : ∀ n : Nat, k < n → psum (iupd f k x) n = psum f n - (if 0 < f k then 1 else 0) + (if 0 < x then 1 else 0) := by
  intro n
  induction n with
  | zero => intro h; omega
  | succ n ih =>
    intro h
    unfold psum
    by_cases c : k = n
    · subst c
      rw [psum_n f k x k (Nat.le_refl k), u_eq]
      omega
    · rw [ih (by omega), u_ne (fun h => c h.symm)]
      omega
theorem psum_l {f : Nat → Int} {k : Nat} (h : ¬ 0 < f k) : ∀ n : Nat, k < n → psum f n + 1 ≤ n := by
  intro n
  induction n with
  | zero => intro h; omega
  | succ n ih =>
    intro hk
    unfold psum
    have := psum_b f n
    by_cases c : k = n
    · subst c
      rw [if_neg h]
      omega
    · have := ih (by omega)
      split <;> omega
def shf (f : Nat → Int) (i e t : Nat) : Int := if i ≤ t ∧ t < e then f (t + 1) else f t
theorem shf_s {f g : Nat → Int} {i e : Nat} (hie : i ≤ e) (h : ∀ t, g t = shf f i e t) : ∀ t, iupd g e (g (e + 1)) t = shf f i (e + 1) t := by
  intro t
  by_cases c : t = e
  · subst c
    rw [u_eq, h]
    unfold shf
    rw [if_neg (by omega), if_pos ⟨hie, by omega⟩]
  · rw [u_ne c, h]
    unfold shf
    by_cases d : i ≤ t ∧ t < e
    · rw [if_pos d, if_pos ⟨d.1, by omega⟩]
    · rw [if_neg d, if_neg (by omega)]
/-- loans from i on moved down one, up to e -/
def Sh (hv h : ISt) (i e : Nat) : Prop := (∀ t, hv 15 t = shf (h 15) i e t) ∧ (∀ t, hv 16 t = shf (h 16) i e t) ∧ (∀ t, hv 17 t = shf (h 17) i e t) ∧ (∀ t, hv 18 t = shf (h 18) i e t) ∧ ∀ j, j ≠ 15 → j ≠ 16 → j ≠ 17 → j ≠ 18 → hv j = h j
theorem sh_0 (h : ISt) (i : Nat) : Sh h h i i := by
  have z : ∀ (f : Nat → Int) t, f t = shf f i i t := by
    intro f t
    unfold shf
    rw [if_neg (by omega)]
  exact ⟨z _, z _, z _, z _, fun _ _ _ _ _ => rfl⟩
theorem sh_loop {h0 h : ISt} {C x2 x3 : Int} {i N : Nat} (b : N < 64) (e24 : h 0 24 = N) : ∀ (j e : Nat) (hv : ISt), e + j = N → i ≤ e → Sh hv h i e → ∃ hZ : ISt, Sh hZ h i N ∧ ∀ (r : Int) (h' : ISt), (L_X5_closes_9 h0 C r h' hZ x2 (x3 + (-1)) → L_X5_closes_137 h0 C r h' hv x2 x3 e) := by
  intro j
  induction j with
  | zero =>
    intro e hv he hie hs
    have he : e = N := he
    subst he
    refine ⟨hv, hs, fun r h' q => ?_⟩
    intro V9 V62 V137 k9 k62 k137
    have e2 : hv 0 24 = e := by rw [hs.2.2.2.2 0 (by decide) (by decide) (by decide) (by decide)]; exact e24
    exact k137 _ _ _ _ ⟨(by unfold inR; omega), by rw [e2]; unfold inR; omega, bt (by omega) (q V9 V62 V137 k9 k62 k137)⟩
  | succ j ih =>
    intro e hv he hie hs
    have e2 : hv 0 24 = N := by rw [hs.2.2.2.2 0 (by decide) (by decide) (by decide) (by decide)]; exact e24
    obtain ⟨s1, s2, s3, s4, s5⟩ := hs
    obtain ⟨hZ, z1, z2⟩ := ih (e + 1) (iset (iset (iset (iset hv 15 e (hv 15 (e + 1))) 16 e (hv 16 (e + 1))) 17 e (hv 17 (e + 1))) 18 e (hv 18 (e + 1))) (by omega) (by omega) ⟨shf_s hie s1, shf_s hie s2, shf_s hie s3, shf_s hie s4, fun j j1 j2 j3 j4 => by
      show (if j = 18 then _ else if j = 17 then _ else if j = 16 then _ else if j = 15 then _ else hv j) = h j
      rw [if_neg j4, if_neg j3, if_neg j2, if_neg j1]
      exact s5 j j1 j2 j3 j4⟩
    refine ⟨hZ, z1, fun r h' q => ?_⟩
    intro V9 V62 V137 k9 k62 k137
    have z := z2 r h' q V9 V62 V137 k9 k62 k137
    have ee : ((e : Int) + 1).toNat = e + 1 := by omega
    refine k137 _ _ _ _ ⟨(by unfold inR; omega), by rw [e2]; unfold inR; omega, bf (by omega) ?_⟩
    rw [ee, Int.toNat_natCast]
    exact ⟨by omega, by omega, fa ⟨by omega, by omega, fa ⟨by omega, by omega, fa ⟨by omega, by omega, fa z⟩⟩⟩⟩
/-- the model's state behind the pieces' way back, before the row of loans moves up -/
def backed (m : ISt) (C d k N : Nat) (v : Int) : ISt := iset (iset (iset (iset m 14 (4 * C + k) (m 14 (4 * C + k) - v)) 14 (4 * d + k) (iupd (m 14) (4 * C + k) (m 14 (4 * C + k) - v) (4 * d + k) + v)) 13 d 0) 0 24 N
theorem close_one {h0 m : ISt} {x2 : Int} {C d k i N : Nat} (bN : N < 64) (hi : i ≤ N) (bC : C < 16) (bd : d < 16) (bk : k < 4) (e24 : m 0 24 = (N : Int) + 1) (e15 : m 15 i = C) (e16 : m 16 i = k) (e17 : m 17 i = d) (r18 : inR (m 18 i)) (r14 : inR (m 14 (4 * C + k))) :
    ∃ hZ : ISt, Sh hZ (backed m C d k N (imin (m 18 i) (m 14 (4 * C + k)))) i N ∧ ∀ (r : Int) (h' : ISt), (L_X5_closes_9 h0 C r h' hZ (x2 + 1) ((i : Int) + (-1)) → L_X5_closes_9 h0 C r h' m x2 i) := by
  obtain ⟨hZ, z1, z2⟩ := sh_loop (h0 := h0) (C := C) (x2 := x2 + 1) (x3 := i) (i := i) (h := backed m C d k N (imin (m 18 i) (m 14 (4 * C + k)))) bN rfl (N - i) i _ (by omega) (Nat.le_refl i) (sh_0 _ i)
  refine ⟨hZ, z1, fun r h' q => ?_⟩
  intro V9 V62 V137 k9 k62 k137
  have z := z2 r h' q V9 V62 V137 k9 k62 k137
  have p1 : (4 * (C : Int) + m 16 i).toNat = 4 * C + k := by omega
  have z62 : V62 m x2 i (imin (m 18 i) (m 14 (4 * C + k))) := by
    refine k62 _ _ _ _ ⟨by omega, ?_⟩
    rw [Int.toNat_natCast, p1]
    refine ⟨by omega, by omega, fa ⟨by omega, by omega, ?_⟩⟩
    have q17 : iset m 14 (4 * C + k) (m 14 (4 * C + k) - imin (m 18 i) (m 14 (4 * C + k))) 17 i = d := e17
    have q16 : iset m 14 (4 * C + k) (m 14 (4 * C + k) - imin (m 18 i) (m 14 (4 * C + k))) 16 i = k := e16
    rw [q17, q16]
    refine ⟨by omega, by omega, fs (4 * d + k) (by omega) rfl ⟨by omega, ?_⟩⟩
    have w17 : iset (iset m 14 (4 * C + k) (m 14 (4 * C + k) - imin (m 18 i) (m 14 (4 * C + k)))) 14 (4 * d + k) (iset m 14 (4 * C + k) (m 14 (4 * C + k) - imin (m 18 i) (m 14 (4 * C + k))) 14 (4 * (d : Int) + (k : Int)).toNat + imin (m 18 i) (m 14 (4 * C + k))) 17 i = d := e17
    rw [w17]
    refine ⟨by omega, fs d rfl rfl (fa ?_)⟩
    have dk : (4 * (d : Int) + (k : Int)).toNat = 4 * d + k := by omega
    rw [dk]
    have e24' : m 0 24 - 1 = (N : Int) := by omega
    have fin : iset (iset (iset (iset m 14 (4 * C + k) (m 14 (4 * C + k) - imin (m 18 i) (m 14 (4 * C + k)))) 14 (4 * d + k) (iset m 14 (4 * C + k) (m 14 (4 * C + k) - imin (m 18 i) (m 14 (4 * C + k))) 14 (4 * d + k) + imin (m 18 i) (m 14 (4 * C + k)))) 13 d 0) 0 24 (m 0 24 - 1) = backed m C d k N (imin (m 18 i) (m 14 (4 * C + k))) := by
      rw [e24']
      rfl
    rw [← fin] at z
    exact z
  refine k9 _ _ _ ⟨(by unfold inR; omega), bf (by omega) ⟨by omega, ?_⟩⟩
  rw [Int.toNat_natCast, e15]
  refine ⟨(by unfold inR; omega), (by unfold inR; omega), nf rfl ⟨by omega, by omega, by omega, r18, ?_⟩⟩
  rw [p1]
  refine ⟨r14, ?_, ?_⟩
  · intro c
    refine ⟨by omega, ?_⟩
    have e : imin (m 18 i) (m 14 (4 * C + k)) = m 18 i := by
      unfold imin
      rw [if_neg (by omega)]
    rw [e] at z62
    exact z62
  · intro c
    have e : imin (m 18 i) (m 14 (4 * C + k)) = m 14 (4 * C + k) := by
      unfold imin
      rw [if_pos (by omega)]
    rw [e] at z62
    exact z62
theorem close_skip {h0 m h' : ISt} {r x2 : Int} {C i : Nat} (bC : C < 16) : ∀ (j K : Nat), i + j = K → K ≤ 64 → (∀ t : Nat, i ≤ t → t < K → m 15 t ≠ C ∧ inR (m 15 t)) → L_X5_closes_9 h0 C r h' m x2 ((i : Int) - 1) → L_X5_closes_9 h0 C r h' m x2 ((K : Int) - 1) := by
  intro j
  induction j with
  | zero =>
    intro K hK bK hs q
    have hK : i = K := hK
    subst hK
    exact q
  | succ j ih =>
    intro K hK bK hs q
    obtain ⟨L, eL⟩ : ∃ L : Nat, K = L + 1 := ⟨K - 1, by omega⟩
    subst eL
    have z := ih L (by omega) (by omega) (fun t h1 h2 => hs t h1 (by omega)) q
    have s := hs L (by omega) (by omega)
    intro V9 V62 V137 k9 k62 k137
    have z := z V9 V62 V137 k9 k62 k137
    have e : ((L + 1 : Nat) : Int) - 1 = L := by omega
    rw [e]
    refine k9 _ _ _ ⟨(by unfold inR; omega), bf (by omega) ⟨by omega, ?_⟩⟩
    rw [Int.toNat_natCast]
    exact ⟨s.2, (by unfold inR; omega), nt s.1 z⟩
