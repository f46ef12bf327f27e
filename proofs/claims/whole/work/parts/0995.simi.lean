/-- the relation, lifted -/
def RelP (R : ISt → ISt → ISt → ISt → Prop) (gh gs gr gm : St) : Prop := ∃ hh hs hr hm : ISt, gh = zS hh ∧ gs = zS hs ∧ gr = zS hr ∧ gm = zS hm ∧ R hh hs hr hm
def SimI_pass (R : ISt → ISt → ISt → ISt → Prop) : Prop := ∀ (hh hs hr hm : ISt) (a1 : Int), inR a1 → R hh hs hr hm → ∃ (b : Int) (hm' : ISt), Q_X5_pass hm a1 b hm' ∧ ∀ (ok : Int → ISt → ISt → ISt → Prop) (ex : String → Prop), (∀ h' s' r' : ISt, hm' 0 0 = 0 → R h' s' r' hm' → ok b h' s' r') → (hm' 0 0 = 1 → R hh hs hr hm' → ex E_a) → (hm' 0 0 = 2 → R hh hs hr hm' → ex E_s) → Q_X4_pass hh hs hr a1 ok ex
theorem sim_pass {R : ISt → ISt → ISt → ISt → Prop} (h : SimI_pass R) : Sim_pass (RelP R) := by
  intro gh gs gr gm a1 hrel
  obtain ⟨hh, hs, hr, hm, rfl, rfl, rfl, rfl, hR⟩ := hrel
  obtain ⟨b, hm', h5, h4⟩ := h hh hs hr hm a1.toInt (inR_of a1) hR
  have t5 := t_X5_pass hm a1.toInt b hm' h5
  have t4 := t_X4_pass hh hs hr a1.toInt (fun (r : Int32) (gh' gs' gr' : St) => (zS hm') 0 0 = 0 ∧ r = zI b ∧ RelP R gh' gs' gr' (zS hm')) (fun E : String => (E = E_a ∧ ((zS hm') 0 0 = 1 ∧ ¬ (1 : Int32) = 0 ∧ RelP R (zS hh) (zS hs) (zS hr) (zS hm'))) ∨ (E = E_s ∧ ((zS hm') 0 0 = 2 ∧ ¬ (2 : Int32) = 0 ∧ RelP R (zS hh) (zS hs) (zS hr) (zS hm')))) (h4 _ _ (fun h' s' r' h0 hR' => (⟨by show zI (hm' 0 0) = _; rw [h0]; rfl, rfl, h', s', r', hm', rfl, rfl, rfl, rfl, hR'⟩ : zS hm' 0 0 = 0 ∧ zI b = zI b ∧ RelP R (zS h') (zS s') (zS r') (zS hm'))) (fun h0 hR' => Or.inl ⟨rfl, by show zI (hm' 0 0) = _; rw [h0]; rfl, by decide, hh, hs, hr, hm', rfl, rfl, rfl, rfl, hR'⟩) (fun h0 hR' => Or.inr (⟨rfl, by show zI (hm' 0 0) = _; rw [h0]; rfl, by decide, hh, hs, hr, hm', rfl, rfl, rfl, rfl, hR'⟩)))
  simp only [zI_of] at t5 t4
  exact ⟨zI b, zS hm', t5, t4⟩
def SimI_now (R : ISt → ISt → ISt → ISt → Prop) : Prop := ∀ (hh hs hr hm : ISt), R hh hs hr hm → ∃ (b : Int) (hm' : ISt), Q_X5_now hm b hm' ∧ Q_X4_now hh hs hr b ∧ R hh hs hr hm'
theorem sim_now {R : ISt → ISt → ISt → ISt → Prop} (h : SimI_now R) : Sim_now (RelP R) := by
  intro gh gs gr gm hrel
  obtain ⟨hh, hs, hr, hm, rfl, rfl, rfl, rfl, hR⟩ := hrel
  obtain ⟨b, hm', h5, h4, hR'⟩ := h hh hs hr hm hR
  exact ⟨zI b, zS hm', t_X5_now hm b hm' h5, t_X4_now hh hs hr b h4, hh, hs, hr, hm', rfl, rfl, rfl, rfl, hR'⟩
def SimI_addTable (R : ISt → ISt → ISt → ISt → Prop) : Prop := ∀ (hh hs hr hm : ISt) (a1 : Int), inR a1 → R hh hs hr hm → ∃ (b : Int) (hm' : ISt), Q_X5_addTable hm a1 b hm' ∧ ∀ (ok : Int → ISt → ISt → ISt → Prop) (ex : String → Prop), (∀ h' s' r' : ISt, hm' 0 0 = 0 → R h' s' r' hm' → ok b h' s' r') → (hm' 0 0 = 1 → R hh hs hr hm' → ex E_a) → (hm' 0 0 = 2 → R hh hs hr hm' → ex E_s) → Q_X4_addTable hh hs hr a1 ok ex
theorem sim_addTable {R : ISt → ISt → ISt → ISt → Prop} (h : SimI_addTable R) : Sim_addTable (RelP R) := by
  intro gh gs gr gm a1 hrel
  obtain ⟨hh, hs, hr, hm, rfl, rfl, rfl, rfl, hR⟩ := hrel
  obtain ⟨b, hm', h5, h4⟩ := h hh hs hr hm a1.toInt (inR_of a1) hR
  have t5 := t_X5_addTable hm a1.toInt b hm' h5
  have t4 := t_X4_addTable hh hs hr a1.toInt (fun (r : Int32) (gh' gs' gr' : St) => (zS hm') 0 0 = 0 ∧ r = zI b ∧ RelP R gh' gs' gr' (zS hm')) (fun E : String => (E = E_a ∧ ((zS hm') 0 0 = 1 ∧ ¬ (1 : Int32) = 0 ∧ RelP R (zS hh) (zS hs) (zS hr) (zS hm'))) ∨ (E = E_s ∧ ((zS hm') 0 0 = 2 ∧ ¬ (2 : Int32) = 0 ∧ RelP R (zS hh) (zS hs) (zS hr) (zS hm')))) (h4 _ _ (fun h' s' r' h0 hR' => (⟨by show zI (hm' 0 0) = _; rw [h0]; rfl, rfl, h', s', r', hm', rfl, rfl, rfl, rfl, hR'⟩ : zS hm' 0 0 = 0 ∧ zI b = zI b ∧ RelP R (zS h') (zS s') (zS r') (zS hm'))) (fun h0 hR' => Or.inl ⟨rfl, by show zI (hm' 0 0) = _; rw [h0]; rfl, by decide, hh, hs, hr, hm', rfl, rfl, rfl, rfl, hR'⟩) (fun h0 hR' => Or.inr (⟨rfl, by show zI (hm' 0 0) = _; rw [h0]; rfl, by decide, hh, hs, hr, hm', rfl, rfl, rfl, rfl, hR'⟩)))
  simp only [zI_of] at t5 t4
  exact ⟨zI b, zS hm', t5, t4⟩
def SimI_addTitle (R : ISt → ISt → ISt → ISt → Prop) : Prop := ∀ (hh hs hr hm : ISt) (a1 : Int) (a2 : Int) (a3 : Int) (a4 : Int) (a5 : Int) (a6 : Int) (a7 : Int), inR a1 → inR a2 → inR a3 → inR a4 → inR a5 → inR a6 → inR a7 → R hh hs hr hm → ∃ (b : Int) (hm' : ISt), Q_X5_addTitle hm a1 a2 a3 a4 a5 a6 a7 b hm' ∧ ∀ (ok : Int → ISt → ISt → ISt → Prop) (ex : String → Prop), (∀ h' s' r' : ISt, hm' 0 0 = 0 → R h' s' r' hm' → ok b h' s' r') → (hm' 0 0 = 1 → R hh hs hr hm' → ex E_a) → (hm' 0 0 = 2 → R hh hs hr hm' → ex E_s) → Q_X4_addTitle hh hs hr a1 a2 a3 a4 a5 a6 a7 ok ex
theorem sim_addTitle {R : ISt → ISt → ISt → ISt → Prop} (h : SimI_addTitle R) : Sim_addTitle (RelP R) := by
  intro gh gs gr gm a1 a2 a3 a4 a5 a6 a7 hrel
  obtain ⟨hh, hs, hr, hm, rfl, rfl, rfl, rfl, hR⟩ := hrel
  obtain ⟨b, hm', h5, h4⟩ := h hh hs hr hm a1.toInt a2.toInt a3.toInt a4.toInt a5.toInt a6.toInt a7.toInt (inR_of a1) (inR_of a2) (inR_of a3) (inR_of a4) (inR_of a5) (inR_of a6) (inR_of a7) hR
  have t5 := t_X5_addTitle hm a1.toInt a2.toInt a3.toInt a4.toInt a5.toInt a6.toInt a7.toInt b hm' h5
  have t4 := t_X4_addTitle hh hs hr a1.toInt a2.toInt a3.toInt a4.toInt a5.toInt a6.toInt a7.toInt (fun (r : Int32) (gh' gs' gr' : St) => (zS hm') 0 0 = 0 ∧ r = zI b ∧ RelP R gh' gs' gr' (zS hm')) (fun E : String => (E = E_a ∧ ((zS hm') 0 0 = 1 ∧ ¬ (1 : Int32) = 0 ∧ RelP R (zS hh) (zS hs) (zS hr) (zS hm'))) ∨ (E = E_s ∧ ((zS hm') 0 0 = 2 ∧ ¬ (2 : Int32) = 0 ∧ RelP R (zS hh) (zS hs) (zS hr) (zS hm')))) (h4 _ _ (fun h' s' r' h0 hR' => (⟨by show zI (hm' 0 0) = _; rw [h0]; rfl, rfl, h', s', r', hm', rfl, rfl, rfl, rfl, hR'⟩ : zS hm' 0 0 = 0 ∧ zI b = zI b ∧ RelP R (zS h') (zS s') (zS r') (zS hm'))) (fun h0 hR' => Or.inl ⟨rfl, by show zI (hm' 0 0) = _; rw [h0]; rfl, by decide, hh, hs, hr, hm', rfl, rfl, rfl, rfl, hR'⟩) (fun h0 hR' => Or.inr (⟨rfl, by show zI (hm' 0 0) = _; rw [h0]; rfl, by decide, hh, hs, hr, hm', rfl, rfl, rfl, rfl, hR'⟩)))
  simp only [zI_of] at t5 t4
  exact ⟨zI b, zS hm', t5, t4⟩
def SimI_addCopy (R : ISt → ISt → ISt → ISt → Prop) : Prop := ∀ (hh hs hr hm : ISt) (a1 : Int), inR a1 → R hh hs hr hm → ∃ (b : Int) (hm' : ISt), Q_X5_addCopy hm a1 b hm' ∧ ∀ (ok : Int → ISt → ISt → ISt → Prop) (ex : String → Prop), (∀ h' s' r' : ISt, hm' 0 0 = 0 → R h' s' r' hm' → ok b h' s' r') → (hm' 0 0 = 1 → R hh hs hr hm' → ex E_i) → (hm' 0 0 = 2 → R hh hs hr hm' → ex E_s) → Q_X4_addCopy hh hs hr a1 ok ex
theorem sim_addCopy {R : ISt → ISt → ISt → ISt → Prop} (h : SimI_addCopy R) : Sim_addCopy (RelP R) := by
  intro gh gs gr gm a1 hrel
  obtain ⟨hh, hs, hr, hm, rfl, rfl, rfl, rfl, hR⟩ := hrel
  obtain ⟨b, hm', h5, h4⟩ := h hh hs hr hm a1.toInt (inR_of a1) hR
  have t5 := t_X5_addCopy hm a1.toInt b hm' h5
  have t4 := t_X4_addCopy hh hs hr a1.toInt (fun (r : Int32) (gh' gs' gr' : St) => (zS hm') 0 0 = 0 ∧ r = zI b ∧ RelP R gh' gs' gr' (zS hm')) (fun E : String => (E = E_i ∧ ((zS hm') 0 0 = 1 ∧ ¬ (1 : Int32) = 0 ∧ RelP R (zS hh) (zS hs) (zS hr) (zS hm'))) ∨ (E = E_s ∧ ((zS hm') 0 0 = 2 ∧ ¬ (2 : Int32) = 0 ∧ RelP R (zS hh) (zS hs) (zS hr) (zS hm')))) (h4 _ _ (fun h' s' r' h0 hR' => (⟨by show zI (hm' 0 0) = _; rw [h0]; rfl, rfl, h', s', r', hm', rfl, rfl, rfl, rfl, hR'⟩ : zS hm' 0 0 = 0 ∧ zI b = zI b ∧ RelP R (zS h') (zS s') (zS r') (zS hm'))) (fun h0 hR' => Or.inl ⟨rfl, by show zI (hm' 0 0) = _; rw [h0]; rfl, by decide, hh, hs, hr, hm', rfl, rfl, rfl, rfl, hR'⟩) (fun h0 hR' => Or.inr (⟨rfl, by show zI (hm' 0 0) = _; rw [h0]; rfl, by decide, hh, hs, hr, hm', rfl, rfl, rfl, rfl, hR'⟩)))
  simp only [zI_of] at t5 t4
  exact ⟨zI b, zS hm', t5, t4⟩
def SimI_addRule (R : ISt → ISt → ISt → ISt → Prop) : Prop := ∀ (hh hs hr hm : ISt) (a1 : Int) (a2 : Int) (a3 : Int) (a4 : Int) (a5 : Int), inR a1 → inR a2 → inR a3 → inR a4 → inR a5 → R hh hs hr hm → ∃ (b : Int) (hm' : ISt), Q_X5_addRule hm a1 a2 a3 a4 a5 b hm' ∧ ∀ (ok : Int → ISt → ISt → ISt → Prop) (ex : String → Prop), (∀ h' s' r' : ISt, hm' 0 0 = 0 → R h' s' r' hm' → ok b h' s' r') → (hm' 0 0 = 1 → R hh hs hr hm' → ex E_i) → (hm' 0 0 = 2 → R hh hs hr hm' → ex E_a) → (hm' 0 0 = 3 → R hh hs hr hm' → ex E_s) → Q_X4_addRule hh hs hr a1 a2 a3 a4 a5 ok ex
theorem sim_addRule {R : ISt → ISt → ISt → ISt → Prop} (h : SimI_addRule R) : Sim_addRule (RelP R) := by
  intro gh gs gr gm a1 a2 a3 a4 a5 hrel
  obtain ⟨hh, hs, hr, hm, rfl, rfl, rfl, rfl, hR⟩ := hrel
  obtain ⟨b, hm', h5, h4⟩ := h hh hs hr hm a1.toInt a2.toInt a3.toInt a4.toInt a5.toInt (inR_of a1) (inR_of a2) (inR_of a3) (inR_of a4) (inR_of a5) hR
  have t5 := t_X5_addRule hm a1.toInt a2.toInt a3.toInt a4.toInt a5.toInt b hm' h5
  have t4 := t_X4_addRule hh hs hr a1.toInt a2.toInt a3.toInt a4.toInt a5.toInt (fun (r : Int32) (gh' gs' gr' : St) => (zS hm') 0 0 = 0 ∧ r = zI b ∧ RelP R gh' gs' gr' (zS hm')) (fun E : String => (E = E_i ∧ ((zS hm') 0 0 = 1 ∧ ¬ (1 : Int32) = 0 ∧ RelP R (zS hh) (zS hs) (zS hr) (zS hm'))) ∨ (E = E_a ∧ ((zS hm') 0 0 = 2 ∧ ¬ (2 : Int32) = 0 ∧ RelP R (zS hh) (zS hs) (zS hr) (zS hm'))) ∨ (E = E_s ∧ ((zS hm') 0 0 = 3 ∧ ¬ (3 : Int32) = 0 ∧ RelP R (zS hh) (zS hs) (zS hr) (zS hm')))) (h4 _ _ (fun h' s' r' h0 hR' => (⟨by show zI (hm' 0 0) = _; rw [h0]; rfl, rfl, h', s', r', hm', rfl, rfl, rfl, rfl, hR'⟩ : zS hm' 0 0 = 0 ∧ zI b = zI b ∧ RelP R (zS h') (zS s') (zS r') (zS hm'))) (fun h0 hR' => Or.inl ⟨rfl, by show zI (hm' 0 0) = _; rw [h0]; rfl, by decide, hh, hs, hr, hm', rfl, rfl, rfl, rfl, hR'⟩) (fun h0 hR' => Or.inr (Or.inl ⟨rfl, by show zI (hm' 0 0) = _; rw [h0]; rfl, by decide, hh, hs, hr, hm', rfl, rfl, rfl, rfl, hR'⟩)) (fun h0 hR' => Or.inr (Or.inr (⟨rfl, by show zI (hm' 0 0) = _; rw [h0]; rfl, by decide, hh, hs, hr, hm', rfl, rfl, rfl, rfl, hR'⟩))))
  simp only [zI_of] at t5 t4
  exact ⟨zI b, zS hm', t5, t4⟩
def SimI_arrive (R : ISt → ISt → ISt → ISt → Prop) : Prop := ∀ (hh hs hr hm : ISt) (a1 : Int) (a2 : Int), inR a1 → inR a2 → R hh hs hr hm → ∃ (b : Int) (hm' : ISt), Q_X5_arrive hm a1 a2 b hm' ∧ ∀ (ok : Int → ISt → ISt → ISt → Prop) (ex : String → Prop), (∀ h' s' r' : ISt, hm' 0 0 = 0 → R h' s' r' hm' → ok b h' s' r') → (hm' 0 0 = 1 → R hh hs hr hm' → ex E_a) → (hm' 0 0 = 2 → R hh hs hr hm' → ex E_s) → Q_X4_arrive hh hs hr a1 a2 ok ex
theorem sim_arrive {R : ISt → ISt → ISt → ISt → Prop} (h : SimI_arrive R) : Sim_arrive (RelP R) := by
  intro gh gs gr gm a1 a2 hrel
  obtain ⟨hh, hs, hr, hm, rfl, rfl, rfl, rfl, hR⟩ := hrel
  obtain ⟨b, hm', h5, h4⟩ := h hh hs hr hm a1.toInt a2.toInt (inR_of a1) (inR_of a2) hR
  have t5 := t_X5_arrive hm a1.toInt a2.toInt b hm' h5
  have t4 := t_X4_arrive hh hs hr a1.toInt a2.toInt (fun (r : Int32) (gh' gs' gr' : St) => (zS hm') 0 0 = 0 ∧ r = zI b ∧ RelP R gh' gs' gr' (zS hm')) (fun E : String => (E = E_a ∧ ((zS hm') 0 0 = 1 ∧ ¬ (1 : Int32) = 0 ∧ RelP R (zS hh) (zS hs) (zS hr) (zS hm'))) ∨ (E = E_s ∧ ((zS hm') 0 0 = 2 ∧ ¬ (2 : Int32) = 0 ∧ RelP R (zS hh) (zS hs) (zS hr) (zS hm')))) (h4 _ _ (fun h' s' r' h0 hR' => (⟨by show zI (hm' 0 0) = _; rw [h0]; rfl, rfl, h', s', r', hm', rfl, rfl, rfl, rfl, hR'⟩ : zS hm' 0 0 = 0 ∧ zI b = zI b ∧ RelP R (zS h') (zS s') (zS r') (zS hm'))) (fun h0 hR' => Or.inl ⟨rfl, by show zI (hm' 0 0) = _; rw [h0]; rfl, by decide, hh, hs, hr, hm', rfl, rfl, rfl, rfl, hR'⟩) (fun h0 hR' => Or.inr (⟨rfl, by show zI (hm' 0 0) = _; rw [h0]; rfl, by decide, hh, hs, hr, hm', rfl, rfl, rfl, rfl, hR'⟩)))
  simp only [zI_of] at t5 t4
  exact ⟨zI b, zS hm', t5, t4⟩
def SimI_leave (R : ISt → ISt → ISt → ISt → Prop) : Prop := ∀ (hh hs hr hm : ISt) (a1 : Int), inR a1 → R hh hs hr hm → ∃ (b : Int) (hm' : ISt), Q_X5_leave hm a1 b hm' ∧ ∀ (ok : Int → ISt → ISt → ISt → Prop) (ex : String → Prop), (∀ h' s' r' : ISt, hm' 0 0 = 0 → R h' s' r' hm' → ok b h' s' r') → (hm' 0 0 = 1 → R hh hs hr hm' → ex E_i) → (hm' 0 0 = 2 → R hh hs hr hm' → ex E_s) → Q_X4_leave hh hs hr a1 ok ex
theorem sim_leave {R : ISt → ISt → ISt → ISt → Prop} (h : SimI_leave R) : Sim_leave (RelP R) := by
  intro gh gs gr gm a1 hrel
  obtain ⟨hh, hs, hr, hm, rfl, rfl, rfl, rfl, hR⟩ := hrel
  obtain ⟨b, hm', h5, h4⟩ := h hh hs hr hm a1.toInt (inR_of a1) hR
  have t5 := t_X5_leave hm a1.toInt b hm' h5
  have t4 := t_X4_leave hh hs hr a1.toInt (fun (r : Int32) (gh' gs' gr' : St) => (zS hm') 0 0 = 0 ∧ r = zI b ∧ RelP R gh' gs' gr' (zS hm')) (fun E : String => (E = E_i ∧ ((zS hm') 0 0 = 1 ∧ ¬ (1 : Int32) = 0 ∧ RelP R (zS hh) (zS hs) (zS hr) (zS hm'))) ∨ (E = E_s ∧ ((zS hm') 0 0 = 2 ∧ ¬ (2 : Int32) = 0 ∧ RelP R (zS hh) (zS hs) (zS hr) (zS hm')))) (h4 _ _ (fun h' s' r' h0 hR' => (⟨by show zI (hm' 0 0) = _; rw [h0]; rfl, rfl, h', s', r', hm', rfl, rfl, rfl, rfl, hR'⟩ : zS hm' 0 0 = 0 ∧ zI b = zI b ∧ RelP R (zS h') (zS s') (zS r') (zS hm'))) (fun h0 hR' => Or.inl ⟨rfl, by show zI (hm' 0 0) = _; rw [h0]; rfl, by decide, hh, hs, hr, hm', rfl, rfl, rfl, rfl, hR'⟩) (fun h0 hR' => Or.inr (⟨rfl, by show zI (hm' 0 0) = _; rw [h0]; rfl, by decide, hh, hs, hr, hm', rfl, rfl, rfl, rfl, hR'⟩)))
  simp only [zI_of] at t5 t4
  exact ⟨zI b, zS hm', t5, t4⟩
def SimI_tableOf (R : ISt → ISt → ISt → ISt → Prop) : Prop := ∀ (hh hs hr hm : ISt) (a1 : Int), inR a1 → R hh hs hr hm → ∃ (b : Int) (hm' : ISt), Q_X5_tableOf hm a1 b hm' ∧ ∀ (ok : Int → ISt → ISt → ISt → Prop) (ex : String → Prop), (∀ h' s' r' : ISt, hm' 0 0 = 0 → R h' s' r' hm' → ok b h' s' r') → (hm' 0 0 = 1 → R hh hs hr hm' → ex E_i) → Q_X4_tableOf hh hs hr a1 ok ex
theorem sim_tableOf {R : ISt → ISt → ISt → ISt → Prop} (h : SimI_tableOf R) : Sim_tableOf (RelP R) := by
  intro gh gs gr gm a1 hrel
  obtain ⟨hh, hs, hr, hm, rfl, rfl, rfl, rfl, hR⟩ := hrel
  obtain ⟨b, hm', h5, h4⟩ := h hh hs hr hm a1.toInt (inR_of a1) hR
  have t5 := t_X5_tableOf hm a1.toInt b hm' h5
  have t4 := t_X4_tableOf hh hs hr a1.toInt (fun (r : Int32) (gh' gs' gr' : St) => (zS hm') 0 0 = 0 ∧ r = zI b ∧ RelP R gh' gs' gr' (zS hm')) (fun E : String => (E = E_i ∧ ((zS hm') 0 0 = 1 ∧ ¬ (1 : Int32) = 0 ∧ RelP R (zS hh) (zS hs) (zS hr) (zS hm')))) (h4 _ _ (fun h' s' r' h0 hR' => (⟨by show zI (hm' 0 0) = _; rw [h0]; rfl, rfl, h', s', r', hm', rfl, rfl, rfl, rfl, hR'⟩ : zS hm' 0 0 = 0 ∧ zI b = zI b ∧ RelP R (zS h') (zS s') (zS r') (zS hm'))) (fun h0 hR' => ⟨rfl, by show zI (hm' 0 0) = _; rw [h0]; rfl, by decide, hh, hs, hr, hm', rfl, rfl, rfl, rfl, hR'⟩))
  simp only [zI_of] at t5 t4
  exact ⟨zI b, zS hm', t5, t4⟩
def SimI_tablesOf (R : ISt → ISt → ISt → ISt → Prop) : Prop := ∀ (hh hs hr hm : ISt) (a1 : Int), inR a1 → R hh hs hr hm → ∃ (b : Int) (hm' : ISt), Q_X5_tablesOf hm a1 b hm' ∧ ∀ (ok : Int → ISt → ISt → ISt → Prop) (ex : String → Prop), (∀ h' s' r' : ISt, hm' 0 0 = 0 → R h' s' r' hm' → ok b h' s' r') → (hm' 0 0 = 1 → R hh hs hr hm' → ex E_i) → Q_X4_tablesOf hh hs hr a1 ok ex
theorem sim_tablesOf {R : ISt → ISt → ISt → ISt → Prop} (h : SimI_tablesOf R) : Sim_tablesOf (RelP R) := by
  intro gh gs gr gm a1 hrel
  obtain ⟨hh, hs, hr, hm, rfl, rfl, rfl, rfl, hR⟩ := hrel
  obtain ⟨b, hm', h5, h4⟩ := h hh hs hr hm a1.toInt (inR_of a1) hR
  have t5 := t_X5_tablesOf hm a1.toInt b hm' h5
  have t4 := t_X4_tablesOf hh hs hr a1.toInt (fun (r : Int32) (gh' gs' gr' : St) => (zS hm') 0 0 = 0 ∧ r = zI b ∧ RelP R gh' gs' gr' (zS hm')) (fun E : String => (E = E_i ∧ ((zS hm') 0 0 = 1 ∧ ¬ (1 : Int32) = 0 ∧ RelP R (zS hh) (zS hs) (zS hr) (zS hm')))) (h4 _ _ (fun h' s' r' h0 hR' => (⟨by show zI (hm' 0 0) = _; rw [h0]; rfl, rfl, h', s', r', hm', rfl, rfl, rfl, rfl, hR'⟩ : zS hm' 0 0 = 0 ∧ zI b = zI b ∧ RelP R (zS h') (zS s') (zS r') (zS hm'))) (fun h0 hR' => ⟨rfl, by show zI (hm' 0 0) = _; rw [h0]; rfl, by decide, hh, hs, hr, hm', rfl, rfl, rfl, rfl, hR'⟩))
  simp only [zI_of] at t5 t4
  exact ⟨zI b, zS hm', t5, t4⟩
def SimI_waiting (R : ISt → ISt → ISt → ISt → Prop) : Prop := ∀ (hh hs hr hm : ISt), R hh hs hr hm → ∃ (b : Int) (hm' : ISt), Q_X5_waiting hm b hm' ∧ Q_X4_waiting hh hs hr b ∧ R hh hs hr hm'
theorem sim_waiting {R : ISt → ISt → ISt → ISt → Prop} (h : SimI_waiting R) : Sim_waiting (RelP R) := by
  intro gh gs gr gm hrel
  obtain ⟨hh, hs, hr, hm, rfl, rfl, rfl, rfl, hR⟩ := hrel
  obtain ⟨b, hm', h5, h4, hR'⟩ := h hh hs hr hm hR
  exact ⟨zI b, zS hm', t_X5_waiting hm b hm' h5, t_X4_waiting hh hs hr b h4, hh, hs, hr, hm', rfl, rfl, rfl, rfl, hR'⟩
def SimI_waste (R : ISt → ISt → ISt → ISt → Prop) : Prop := ∀ (hh hs hr hm : ISt) (a1 : Int), inR a1 → R hh hs hr hm → ∃ (b : Int) (hm' : ISt), Q_X5_waste hm a1 b hm' ∧ ∀ (ok : Int → ISt → ISt → ISt → Prop) (ex : String → Prop), (∀ h' s' r' : ISt, hm' 0 0 = 0 → R h' s' r' hm' → ok b h' s' r') → (hm' 0 0 = 1 → R hh hs hr hm' → ex E_a) → Q_X4_waste hh hs hr a1 ok ex
theorem sim_waste {R : ISt → ISt → ISt → ISt → Prop} (h : SimI_waste R) : Sim_waste (RelP R) := by
  intro gh gs gr gm a1 hrel
  obtain ⟨hh, hs, hr, hm, rfl, rfl, rfl, rfl, hR⟩ := hrel
  obtain ⟨b, hm', h5, h4⟩ := h hh hs hr hm a1.toInt (inR_of a1) hR
  have t5 := t_X5_waste hm a1.toInt b hm' h5
  have t4 := t_X4_waste hh hs hr a1.toInt (fun (r : Int32) (gh' gs' gr' : St) => (zS hm') 0 0 = 0 ∧ r = zI b ∧ RelP R gh' gs' gr' (zS hm')) (fun E : String => (E = E_a ∧ ((zS hm') 0 0 = 1 ∧ ¬ (1 : Int32) = 0 ∧ RelP R (zS hh) (zS hs) (zS hr) (zS hm')))) (h4 _ _ (fun h' s' r' h0 hR' => (⟨by show zI (hm' 0 0) = _; rw [h0]; rfl, rfl, h', s', r', hm', rfl, rfl, rfl, rfl, hR'⟩ : zS hm' 0 0 = 0 ∧ zI b = zI b ∧ RelP R (zS h') (zS s') (zS r') (zS hm'))) (fun h0 hR' => ⟨rfl, by show zI (hm' 0 0) = _; rw [h0]; rfl, by decide, hh, hs, hr, hm', rfl, rfl, rfl, rfl, hR'⟩))
  simp only [zI_of] at t5 t4
  exact ⟨zI b, zS hm', t5, t4⟩
def SimI_wasteByAll (R : ISt → ISt → ISt → ISt → Prop) : Prop := ∀ (hh hs hr hm : ISt) (a1 : Int), inR a1 → R hh hs hr hm → ∃ (b : Int) (hm' : ISt), Q_X5_wasteByAll hm a1 b hm' ∧ ∀ (ok : Int → ISt → ISt → ISt → Prop) (ex : String → Prop), (∀ h' s' r' : ISt, hm' 0 0 = 0 → R h' s' r' hm' → ok b h' s' r') → (hm' 0 0 = 1 → R hh hs hr hm' → ex E_a) → Q_X4_wasteByAll hh hs hr a1 ok ex
theorem sim_wasteByAll {R : ISt → ISt → ISt → ISt → Prop} (h : SimI_wasteByAll R) : Sim_wasteByAll (RelP R) := by
  intro gh gs gr gm a1 hrel
  obtain ⟨hh, hs, hr, hm, rfl, rfl, rfl, rfl, hR⟩ := hrel
  obtain ⟨b, hm', h5, h4⟩ := h hh hs hr hm a1.toInt (inR_of a1) hR
  have t5 := t_X5_wasteByAll hm a1.toInt b hm' h5
  have t4 := t_X4_wasteByAll hh hs hr a1.toInt (fun (r : Int32) (gh' gs' gr' : St) => (zS hm') 0 0 = 0 ∧ r = zI b ∧ RelP R gh' gs' gr' (zS hm')) (fun E : String => (E = E_a ∧ ((zS hm') 0 0 = 1 ∧ ¬ (1 : Int32) = 0 ∧ RelP R (zS hh) (zS hs) (zS hr) (zS hm')))) (h4 _ _ (fun h' s' r' h0 hR' => (⟨by show zI (hm' 0 0) = _; rw [h0]; rfl, rfl, h', s', r', hm', rfl, rfl, rfl, rfl, hR'⟩ : zS hm' 0 0 = 0 ∧ zI b = zI b ∧ RelP R (zS h') (zS s') (zS r') (zS hm'))) (fun h0 hR' => ⟨rfl, by show zI (hm' 0 0) = _; rw [h0]; rfl, by decide, hh, hs, hr, hm', rfl, rfl, rfl, rfl, hR'⟩))
  simp only [zI_of] at t5 t4
  exact ⟨zI b, zS hm', t5, t4⟩
def SimI_left (R : ISt → ISt → ISt → ISt → Prop) : Prop := ∀ (hh hs hr hm : ISt) (a1 : Int), inR a1 → R hh hs hr hm → ∃ (b : Int) (hm' : ISt), Q_X5_left hm a1 b hm' ∧ ∀ (ok : Int → ISt → ISt → ISt → Prop) (ex : String → Prop), (∀ h' s' r' : ISt, hm' 0 0 = 0 → R h' s' r' hm' → ok b h' s' r') → (hm' 0 0 = 1 → R hh hs hr hm' → ex E_i) → (hm' 0 0 = 2 → R hh hs hr hm' → ex E_s) → Q_X4_left hh hs hr a1 ok ex
theorem sim_left {R : ISt → ISt → ISt → ISt → Prop} (h : SimI_left R) : Sim_left (RelP R) := by
  intro gh gs gr gm a1 hrel
  obtain ⟨hh, hs, hr, hm, rfl, rfl, rfl, rfl, hR⟩ := hrel
  obtain ⟨b, hm', h5, h4⟩ := h hh hs hr hm a1.toInt (inR_of a1) hR
  have t5 := t_X5_left hm a1.toInt b hm' h5
  have t4 := t_X4_left hh hs hr a1.toInt (fun (r : Int32) (gh' gs' gr' : St) => (zS hm') 0 0 = 0 ∧ r = zI b ∧ RelP R gh' gs' gr' (zS hm')) (fun E : String => (E = E_i ∧ ((zS hm') 0 0 = 1 ∧ ¬ (1 : Int32) = 0 ∧ RelP R (zS hh) (zS hs) (zS hr) (zS hm'))) ∨ (E = E_s ∧ ((zS hm') 0 0 = 2 ∧ ¬ (2 : Int32) = 0 ∧ RelP R (zS hh) (zS hs) (zS hr) (zS hm')))) (h4 _ _ (fun h' s' r' h0 hR' => (⟨by show zI (hm' 0 0) = _; rw [h0]; rfl, rfl, h', s', r', hm', rfl, rfl, rfl, rfl, hR'⟩ : zS hm' 0 0 = 0 ∧ zI b = zI b ∧ RelP R (zS h') (zS s') (zS r') (zS hm'))) (fun h0 hR' => Or.inl ⟨rfl, by show zI (hm' 0 0) = _; rw [h0]; rfl, by decide, hh, hs, hr, hm', rfl, rfl, rfl, rfl, hR'⟩) (fun h0 hR' => Or.inr (⟨rfl, by show zI (hm' 0 0) = _; rw [h0]; rfl, by decide, hh, hs, hr, hm', rfl, rfl, rfl, rfl, hR'⟩)))
  simp only [zI_of] at t5 t4
  exact ⟨zI b, zS hm', t5, t4⟩
def SimI_offers (R : ISt → ISt → ISt → ISt → Prop) : Prop := ∀ (hh hs hr hm : ISt) (a1 : Int), inR a1 → R hh hs hr hm → ∃ (b : Int) (hm' : ISt), Q_X5_offers hm a1 b hm' ∧ ∀ (ok : Int → ISt → ISt → ISt → Prop) (ex : String → Prop), (∀ h' s' r' : ISt, hm' 0 0 = 0 → R h' s' r' hm' → ok b h' s' r') → (hm' 0 0 = 1 → R hh hs hr hm' → ex E_i) → Q_X4_offers hh hs hr a1 ok ex
theorem sim_offers {R : ISt → ISt → ISt → ISt → Prop} (h : SimI_offers R) : Sim_offers (RelP R) := by
  intro gh gs gr gm a1 hrel
  obtain ⟨hh, hs, hr, hm, rfl, rfl, rfl, rfl, hR⟩ := hrel
  obtain ⟨b, hm', h5, h4⟩ := h hh hs hr hm a1.toInt (inR_of a1) hR
  have t5 := t_X5_offers hm a1.toInt b hm' h5
  have t4 := t_X4_offers hh hs hr a1.toInt (fun (r : Int32) (gh' gs' gr' : St) => (zS hm') 0 0 = 0 ∧ r = zI b ∧ RelP R gh' gs' gr' (zS hm')) (fun E : String => (E = E_i ∧ ((zS hm') 0 0 = 1 ∧ ¬ (1 : Int32) = 0 ∧ RelP R (zS hh) (zS hs) (zS hr) (zS hm')))) (h4 _ _ (fun h' s' r' h0 hR' => (⟨by show zI (hm' 0 0) = _; rw [h0]; rfl, rfl, h', s', r', hm', rfl, rfl, rfl, rfl, hR'⟩ : zS hm' 0 0 = 0 ∧ zI b = zI b ∧ RelP R (zS h') (zS s') (zS r') (zS hm'))) (fun h0 hR' => ⟨rfl, by show zI (hm' 0 0) = _; rw [h0]; rfl, by decide, hh, hs, hr, hm', rfl, rfl, rfl, rfl, hR'⟩))
  simp only [zI_of] at t5 t4
  exact ⟨zI b, zS hm', t5, t4⟩
def SimI_offerAt (R : ISt → ISt → ISt → ISt → Prop) : Prop := ∀ (hh hs hr hm : ISt) (a1 : Int) (a2 : Int), inR a1 → inR a2 → R hh hs hr hm → ∃ (b : Int) (hm' : ISt), Q_X5_offerAt hm a1 a2 b hm' ∧ ∀ (ok : Int → ISt → ISt → ISt → Prop) (ex : String → Prop), (∀ h' s' r' : ISt, hm' 0 0 = 0 → R h' s' r' hm' → ok b h' s' r') → (hm' 0 0 = 1 → R hh hs hr hm' → ex E_i) → Q_X4_offerAt hh hs hr a1 a2 ok ex
theorem sim_offerAt {R : ISt → ISt → ISt → ISt → Prop} (h : SimI_offerAt R) : Sim_offerAt (RelP R) := by
  intro gh gs gr gm a1 a2 hrel
  obtain ⟨hh, hs, hr, hm, rfl, rfl, rfl, rfl, hR⟩ := hrel
  obtain ⟨b, hm', h5, h4⟩ := h hh hs hr hm a1.toInt a2.toInt (inR_of a1) (inR_of a2) hR
  have t5 := t_X5_offerAt hm a1.toInt a2.toInt b hm' h5
  have t4 := t_X4_offerAt hh hs hr a1.toInt a2.toInt (fun (r : Int32) (gh' gs' gr' : St) => (zS hm') 0 0 = 0 ∧ r = zI b ∧ RelP R gh' gs' gr' (zS hm')) (fun E : String => (E = E_i ∧ ((zS hm') 0 0 = 1 ∧ ¬ (1 : Int32) = 0 ∧ RelP R (zS hh) (zS hs) (zS hr) (zS hm')))) (h4 _ _ (fun h' s' r' h0 hR' => (⟨by show zI (hm' 0 0) = _; rw [h0]; rfl, rfl, h', s', r', hm', rfl, rfl, rfl, rfl, hR'⟩ : zS hm' 0 0 = 0 ∧ zI b = zI b ∧ RelP R (zS h') (zS s') (zS r') (zS hm'))) (fun h0 hR' => ⟨rfl, by show zI (hm' 0 0) = _; rw [h0]; rfl, by decide, hh, hs, hr, hm', rfl, rfl, rfl, rfl, hR'⟩))
  simp only [zI_of] at t5 t4
  exact ⟨zI b, zS hm', t5, t4⟩
def SimI_serve (R : ISt → ISt → ISt → ISt → Prop) : Prop := ∀ (hh hs hr hm : ISt) (a1 : Int) (a2 : Int), inR a1 → inR a2 → R hh hs hr hm → ∃ (b : Int) (hm' : ISt), Q_X5_serve hm a1 a2 b hm' ∧ ∀ (ok : Int → ISt → ISt → ISt → Prop) (ex : String → Prop), (∀ h' s' r' : ISt, hm' 0 0 = 0 → R h' s' r' hm' → ok b h' s' r') → (hm' 0 0 = 1 → R hh hs hr hm' → ex E_i) → (hm' 0 0 = 2 → R hh hs hr hm' → ex E_s) → Q_X4_serve hh hs hr a1 a2 ok ex
theorem sim_serve {R : ISt → ISt → ISt → ISt → Prop} (h : SimI_serve R) : Sim_serve (RelP R) := by
  intro gh gs gr gm a1 a2 hrel
  obtain ⟨hh, hs, hr, hm, rfl, rfl, rfl, rfl, hR⟩ := hrel
  obtain ⟨b, hm', h5, h4⟩ := h hh hs hr hm a1.toInt a2.toInt (inR_of a1) (inR_of a2) hR
  have t5 := t_X5_serve hm a1.toInt a2.toInt b hm' h5
  have t4 := t_X4_serve hh hs hr a1.toInt a2.toInt (fun (r : Int32) (gh' gs' gr' : St) => (zS hm') 0 0 = 0 ∧ r = zI b ∧ RelP R gh' gs' gr' (zS hm')) (fun E : String => (E = E_i ∧ ((zS hm') 0 0 = 1 ∧ ¬ (1 : Int32) = 0 ∧ RelP R (zS hh) (zS hs) (zS hr) (zS hm'))) ∨ (E = E_s ∧ ((zS hm') 0 0 = 2 ∧ ¬ (2 : Int32) = 0 ∧ RelP R (zS hh) (zS hs) (zS hr) (zS hm')))) (h4 _ _ (fun h' s' r' h0 hR' => (⟨by show zI (hm' 0 0) = _; rw [h0]; rfl, rfl, h', s', r', hm', rfl, rfl, rfl, rfl, hR'⟩ : zS hm' 0 0 = 0 ∧ zI b = zI b ∧ RelP R (zS h') (zS s') (zS r') (zS hm'))) (fun h0 hR' => Or.inl ⟨rfl, by show zI (hm' 0 0) = _; rw [h0]; rfl, by decide, hh, hs, hr, hm', rfl, rfl, rfl, rfl, hR'⟩) (fun h0 hR' => Or.inr (⟨rfl, by show zI (hm' 0 0) = _; rw [h0]; rfl, by decide, hh, hs, hr, hm', rfl, rfl, rfl, rfl, hR'⟩)))
  simp only [zI_of] at t5 t4
  exact ⟨zI b, zS hm', t5, t4⟩
def SimI_giveBack (R : ISt → ISt → ISt → ISt → Prop) : Prop := ∀ (hh hs hr hm : ISt) (a1 : Int) (a2 : Int) (a3 : Int), inR a1 → inR a2 → inR a3 → R hh hs hr hm → ∃ (b : Int) (hm' : ISt), Q_X5_giveBack hm a1 a2 a3 b hm' ∧ ∀ (ok : Int → ISt → ISt → ISt → Prop) (ex : String → Prop), (∀ h' s' r' : ISt, hm' 0 0 = 0 → R h' s' r' hm' → ok b h' s' r') → (hm' 0 0 = 1 → R hh hs hr hm' → ex E_i) → (hm' 0 0 = 2 → R hh hs hr hm' → ex E_a) → (hm' 0 0 = 3 → R hh hs hr hm' → ex E_s) → Q_X4_giveBack hh hs hr a1 a2 a3 ok ex
theorem sim_giveBack {R : ISt → ISt → ISt → ISt → Prop} (h : SimI_giveBack R) : Sim_giveBack (RelP R) := by
  intro gh gs gr gm a1 a2 a3 hrel
  obtain ⟨hh, hs, hr, hm, rfl, rfl, rfl, rfl, hR⟩ := hrel
  obtain ⟨b, hm', h5, h4⟩ := h hh hs hr hm a1.toInt a2.toInt a3.toInt (inR_of a1) (inR_of a2) (inR_of a3) hR
  have t5 := t_X5_giveBack hm a1.toInt a2.toInt a3.toInt b hm' h5
  have t4 := t_X4_giveBack hh hs hr a1.toInt a2.toInt a3.toInt (fun (r : Int32) (gh' gs' gr' : St) => (zS hm') 0 0 = 0 ∧ r = zI b ∧ RelP R gh' gs' gr' (zS hm')) (fun E : String => (E = E_i ∧ ((zS hm') 0 0 = 1 ∧ ¬ (1 : Int32) = 0 ∧ RelP R (zS hh) (zS hs) (zS hr) (zS hm'))) ∨ (E = E_a ∧ ((zS hm') 0 0 = 2 ∧ ¬ (2 : Int32) = 0 ∧ RelP R (zS hh) (zS hs) (zS hr) (zS hm'))) ∨ (E = E_s ∧ ((zS hm') 0 0 = 3 ∧ ¬ (3 : Int32) = 0 ∧ RelP R (zS hh) (zS hs) (zS hr) (zS hm')))) (h4 _ _ (fun h' s' r' h0 hR' => (⟨by show zI (hm' 0 0) = _; rw [h0]; rfl, rfl, h', s', r', hm', rfl, rfl, rfl, rfl, hR'⟩ : zS hm' 0 0 = 0 ∧ zI b = zI b ∧ RelP R (zS h') (zS s') (zS r') (zS hm'))) (fun h0 hR' => Or.inl ⟨rfl, by show zI (hm' 0 0) = _; rw [h0]; rfl, by decide, hh, hs, hr, hm', rfl, rfl, rfl, rfl, hR'⟩) (fun h0 hR' => Or.inr (Or.inl ⟨rfl, by show zI (hm' 0 0) = _; rw [h0]; rfl, by decide, hh, hs, hr, hm', rfl, rfl, rfl, rfl, hR'⟩)) (fun h0 hR' => Or.inr (Or.inr (⟨rfl, by show zI (hm' 0 0) = _; rw [h0]; rfl, by decide, hh, hs, hr, hm', rfl, rfl, rfl, rfl, hR'⟩))))
  simp only [zI_of] at t5 t4
  exact ⟨zI b, zS hm', t5, t4⟩
def SimI_found (R : ISt → ISt → ISt → ISt → Prop) : Prop := ∀ (hh hs hr hm : ISt) (a1 : Int) (a2 : Int) (a3 : Int), inR a1 → inR a2 → inR a3 → R hh hs hr hm → ∃ (b : Int) (hm' : ISt), Q_X5_found hm a1 a2 a3 b hm' ∧ ∀ (ok : Int → ISt → ISt → ISt → Prop) (ex : String → Prop), (∀ h' s' r' : ISt, hm' 0 0 = 0 → R h' s' r' hm' → ok b h' s' r') → (hm' 0 0 = 1 → R hh hs hr hm' → ex E_i) → (hm' 0 0 = 2 → R hh hs hr hm' → ex E_a) → (hm' 0 0 = 3 → R hh hs hr hm' → ex E_s) → Q_X4_found hh hs hr a1 a2 a3 ok ex
theorem sim_found {R : ISt → ISt → ISt → ISt → Prop} (h : SimI_found R) : Sim_found (RelP R) := by
  intro gh gs gr gm a1 a2 a3 hrel
  obtain ⟨hh, hs, hr, hm, rfl, rfl, rfl, rfl, hR⟩ := hrel
  obtain ⟨b, hm', h5, h4⟩ := h hh hs hr hm a1.toInt a2.toInt a3.toInt (inR_of a1) (inR_of a2) (inR_of a3) hR
  have t5 := t_X5_found hm a1.toInt a2.toInt a3.toInt b hm' h5
  have t4 := t_X4_found hh hs hr a1.toInt a2.toInt a3.toInt (fun (r : Int32) (gh' gs' gr' : St) => (zS hm') 0 0 = 0 ∧ r = zI b ∧ RelP R gh' gs' gr' (zS hm')) (fun E : String => (E = E_i ∧ ((zS hm') 0 0 = 1 ∧ ¬ (1 : Int32) = 0 ∧ RelP R (zS hh) (zS hs) (zS hr) (zS hm'))) ∨ (E = E_a ∧ ((zS hm') 0 0 = 2 ∧ ¬ (2 : Int32) = 0 ∧ RelP R (zS hh) (zS hs) (zS hr) (zS hm'))) ∨ (E = E_s ∧ ((zS hm') 0 0 = 3 ∧ ¬ (3 : Int32) = 0 ∧ RelP R (zS hh) (zS hs) (zS hr) (zS hm')))) (h4 _ _ (fun h' s' r' h0 hR' => (⟨by show zI (hm' 0 0) = _; rw [h0]; rfl, rfl, h', s', r', hm', rfl, rfl, rfl, rfl, hR'⟩ : zS hm' 0 0 = 0 ∧ zI b = zI b ∧ RelP R (zS h') (zS s') (zS r') (zS hm'))) (fun h0 hR' => Or.inl ⟨rfl, by show zI (hm' 0 0) = _; rw [h0]; rfl, by decide, hh, hs, hr, hm', rfl, rfl, rfl, rfl, hR'⟩) (fun h0 hR' => Or.inr (Or.inl ⟨rfl, by show zI (hm' 0 0) = _; rw [h0]; rfl, by decide, hh, hs, hr, hm', rfl, rfl, rfl, rfl, hR'⟩)) (fun h0 hR' => Or.inr (Or.inr (⟨rfl, by show zI (hm' 0 0) = _; rw [h0]; rfl, by decide, hh, hs, hr, hm', rfl, rfl, rfl, rfl, hR'⟩))))
  simp only [zI_of] at t5 t4
  exact ⟨zI b, zS hm', t5, t4⟩
def SimI_pieces (R : ISt → ISt → ISt → ISt → Prop) : Prop := ∀ (hh hs hr hm : ISt) (a1 : Int) (a2 : Int), inR a1 → inR a2 → R hh hs hr hm → ∃ (b : Int) (hm' : ISt), Q_X5_pieces hm a1 a2 b hm' ∧ ∀ (ok : Int → ISt → ISt → ISt → Prop) (ex : String → Prop), (∀ h' s' r' : ISt, hm' 0 0 = 0 → R h' s' r' hm' → ok b h' s' r') → (hm' 0 0 = 1 → R hh hs hr hm' → ex E_i) → Q_X4_pieces hh hs hr a1 a2 ok ex
theorem sim_pieces {R : ISt → ISt → ISt → ISt → Prop} (h : SimI_pieces R) : Sim_pieces (RelP R) := by
  intro gh gs gr gm a1 a2 hrel
  obtain ⟨hh, hs, hr, hm, rfl, rfl, rfl, rfl, hR⟩ := hrel
  obtain ⟨b, hm', h5, h4⟩ := h hh hs hr hm a1.toInt a2.toInt (inR_of a1) (inR_of a2) hR
  have t5 := t_X5_pieces hm a1.toInt a2.toInt b hm' h5
  have t4 := t_X4_pieces hh hs hr a1.toInt a2.toInt (fun (r : Int32) (gh' gs' gr' : St) => (zS hm') 0 0 = 0 ∧ r = zI b ∧ RelP R gh' gs' gr' (zS hm')) (fun E : String => (E = E_i ∧ ((zS hm') 0 0 = 1 ∧ ¬ (1 : Int32) = 0 ∧ RelP R (zS hh) (zS hs) (zS hr) (zS hm')))) (h4 _ _ (fun h' s' r' h0 hR' => (⟨by show zI (hm' 0 0) = _; rw [h0]; rfl, rfl, h', s', r', hm', rfl, rfl, rfl, rfl, hR'⟩ : zS hm' 0 0 = 0 ∧ zI b = zI b ∧ RelP R (zS h') (zS s') (zS r') (zS hm'))) (fun h0 hR' => ⟨rfl, by show zI (hm' 0 0) = _; rw [h0]; rfl, by decide, hh, hs, hr, hm', rfl, rfl, rfl, rfl, hR'⟩))
  simp only [zI_of] at t5 t4
  exact ⟨zI b, zS hm', t5, t4⟩
def SimI_stateOf (R : ISt → ISt → ISt → ISt → Prop) : Prop := ∀ (hh hs hr hm : ISt) (a1 : Int), inR a1 → R hh hs hr hm → ∃ (b : Int) (hm' : ISt), Q_X5_stateOf hm a1 b hm' ∧ ∀ (ok : Int → ISt → ISt → ISt → Prop) (ex : String → Prop), (∀ h' s' r' : ISt, hm' 0 0 = 0 → R h' s' r' hm' → ok b h' s' r') → (hm' 0 0 = 1 → R hh hs hr hm' → ex E_i) → Q_X4_stateOf hh hs hr a1 ok ex
theorem sim_stateOf {R : ISt → ISt → ISt → ISt → Prop} (h : SimI_stateOf R) : Sim_stateOf (RelP R) := by
  intro gh gs gr gm a1 hrel
  obtain ⟨hh, hs, hr, hm, rfl, rfl, rfl, rfl, hR⟩ := hrel
  obtain ⟨b, hm', h5, h4⟩ := h hh hs hr hm a1.toInt (inR_of a1) hR
  have t5 := t_X5_stateOf hm a1.toInt b hm' h5
  have t4 := t_X4_stateOf hh hs hr a1.toInt (fun (r : Int32) (gh' gs' gr' : St) => (zS hm') 0 0 = 0 ∧ r = zI b ∧ RelP R gh' gs' gr' (zS hm')) (fun E : String => (E = E_i ∧ ((zS hm') 0 0 = 1 ∧ ¬ (1 : Int32) = 0 ∧ RelP R (zS hh) (zS hs) (zS hr) (zS hm')))) (h4 _ _ (fun h' s' r' h0 hR' => (⟨by show zI (hm' 0 0) = _; rw [h0]; rfl, rfl, h', s', r', hm', rfl, rfl, rfl, rfl, hR'⟩ : zS hm' 0 0 = 0 ∧ zI b = zI b ∧ RelP R (zS h') (zS s') (zS r') (zS hm'))) (fun h0 hR' => ⟨rfl, by show zI (hm' 0 0) = _; rw [h0]; rfl, by decide, hh, hs, hr, hm', rfl, rfl, rfl, rfl, hR'⟩))
  simp only [zI_of] at t5 t4
  exact ⟨zI b, zS hm', t5, t4⟩
def SimI_lenders (R : ISt → ISt → ISt → ISt → Prop) : Prop := ∀ (hh hs hr hm : ISt) (a1 : Int), inR a1 → R hh hs hr hm → ∃ (b : Int) (hm' : ISt), Q_X5_lenders hm a1 b hm' ∧ ∀ (ok : Int → ISt → ISt → ISt → Prop) (ex : String → Prop), (∀ h' s' r' : ISt, hm' 0 0 = 0 → R h' s' r' hm' → ok b h' s' r') → (hm' 0 0 = 1 → R hh hs hr hm' → ex E_i) → Q_X4_lenders hh hs hr a1 ok ex
theorem sim_lenders {R : ISt → ISt → ISt → ISt → Prop} (h : SimI_lenders R) : Sim_lenders (RelP R) := by
  intro gh gs gr gm a1 hrel
  obtain ⟨hh, hs, hr, hm, rfl, rfl, rfl, rfl, hR⟩ := hrel
  obtain ⟨b, hm', h5, h4⟩ := h hh hs hr hm a1.toInt (inR_of a1) hR
  have t5 := t_X5_lenders hm a1.toInt b hm' h5
  have t4 := t_X4_lenders hh hs hr a1.toInt (fun (r : Int32) (gh' gs' gr' : St) => (zS hm') 0 0 = 0 ∧ r = zI b ∧ RelP R gh' gs' gr' (zS hm')) (fun E : String => (E = E_i ∧ ((zS hm') 0 0 = 1 ∧ ¬ (1 : Int32) = 0 ∧ RelP R (zS hh) (zS hs) (zS hr) (zS hm')))) (h4 _ _ (fun h' s' r' h0 hR' => (⟨by show zI (hm' 0 0) = _; rw [h0]; rfl, rfl, h', s', r', hm', rfl, rfl, rfl, rfl, hR'⟩ : zS hm' 0 0 = 0 ∧ zI b = zI b ∧ RelP R (zS h') (zS s') (zS r') (zS hm'))) (fun h0 hR' => ⟨rfl, by show zI (hm' 0 0) = _; rw [h0]; rfl, by decide, hh, hs, hr, hm', rfl, rfl, rfl, rfl, hR'⟩))
  simp only [zI_of] at t5 t4
  exact ⟨zI b, zS hm', t5, t4⟩
def SimI_copyOf (R : ISt → ISt → ISt → ISt → Prop) : Prop := ∀ (hh hs hr hm : ISt) (a1 : Int), inR a1 → R hh hs hr hm → ∃ (b : Int) (hm' : ISt), Q_X5_copyOf hm a1 b hm' ∧ ∀ (ok : Int → ISt → ISt → ISt → Prop) (ex : String → Prop), (∀ h' s' r' : ISt, hm' 0 0 = 0 → R h' s' r' hm' → ok b h' s' r') → (hm' 0 0 = 1 → R hh hs hr hm' → ex E_i) → Q_X4_copyOf hh hs hr a1 ok ex
theorem sim_copyOf {R : ISt → ISt → ISt → ISt → Prop} (h : SimI_copyOf R) : Sim_copyOf (RelP R) := by
  intro gh gs gr gm a1 hrel
  obtain ⟨hh, hs, hr, hm, rfl, rfl, rfl, rfl, hR⟩ := hrel
  obtain ⟨b, hm', h5, h4⟩ := h hh hs hr hm a1.toInt (inR_of a1) hR
  have t5 := t_X5_copyOf hm a1.toInt b hm' h5
  have t4 := t_X4_copyOf hh hs hr a1.toInt (fun (r : Int32) (gh' gs' gr' : St) => (zS hm') 0 0 = 0 ∧ r = zI b ∧ RelP R gh' gs' gr' (zS hm')) (fun E : String => (E = E_i ∧ ((zS hm') 0 0 = 1 ∧ ¬ (1 : Int32) = 0 ∧ RelP R (zS hh) (zS hs) (zS hr) (zS hm')))) (h4 _ _ (fun h' s' r' h0 hR' => (⟨by show zI (hm' 0 0) = _; rw [h0]; rfl, rfl, h', s', r', hm', rfl, rfl, rfl, rfl, hR'⟩ : zS hm' 0 0 = 0 ∧ zI b = zI b ∧ RelP R (zS h') (zS s') (zS r') (zS hm'))) (fun h0 hR' => ⟨rfl, by show zI (hm' 0 0) = _; rw [h0]; rfl, by decide, hh, hs, hr, hm', rfl, rfl, rfl, rfl, hR'⟩))
  simp only [zI_of] at t5 t4
  exact ⟨zI b, zS hm', t5, t4⟩
def SimI_ruling (R : ISt → ISt → ISt → ISt → Prop) : Prop := ∀ (hh hs hr hm : ISt) (a1 : Int), inR a1 → R hh hs hr hm → ∃ (b : Int) (hm' : ISt), Q_X5_ruling hm a1 b hm' ∧ ∀ (ok : Int → ISt → ISt → ISt → Prop) (ex : String → Prop), (∀ h' s' r' : ISt, hm' 0 0 = 0 → R h' s' r' hm' → ok b h' s' r') → (hm' 0 0 = 1 → R hh hs hr hm' → ex E_i) → (hm' 0 0 = 2 → R hh hs hr hm' → ex E_s) → Q_X4_ruling hh hs hr a1 ok ex
theorem sim_ruling {R : ISt → ISt → ISt → ISt → Prop} (h : SimI_ruling R) : Sim_ruling (RelP R) := by
  intro gh gs gr gm a1 hrel
  obtain ⟨hh, hs, hr, hm, rfl, rfl, rfl, rfl, hR⟩ := hrel
  obtain ⟨b, hm', h5, h4⟩ := h hh hs hr hm a1.toInt (inR_of a1) hR
  have t5 := t_X5_ruling hm a1.toInt b hm' h5
  have t4 := t_X4_ruling hh hs hr a1.toInt (fun (r : Int32) (gh' gs' gr' : St) => (zS hm') 0 0 = 0 ∧ r = zI b ∧ RelP R gh' gs' gr' (zS hm')) (fun E : String => (E = E_i ∧ ((zS hm') 0 0 = 1 ∧ ¬ (1 : Int32) = 0 ∧ RelP R (zS hh) (zS hs) (zS hr) (zS hm'))) ∨ (E = E_s ∧ ((zS hm') 0 0 = 2 ∧ ¬ (2 : Int32) = 0 ∧ RelP R (zS hh) (zS hs) (zS hr) (zS hm')))) (h4 _ _ (fun h' s' r' h0 hR' => (⟨by show zI (hm' 0 0) = _; rw [h0]; rfl, rfl, h', s', r', hm', rfl, rfl, rfl, rfl, hR'⟩ : zS hm' 0 0 = 0 ∧ zI b = zI b ∧ RelP R (zS h') (zS s') (zS r') (zS hm'))) (fun h0 hR' => Or.inl ⟨rfl, by show zI (hm' 0 0) = _; rw [h0]; rfl, by decide, hh, hs, hr, hm', rfl, rfl, rfl, rfl, hR'⟩) (fun h0 hR' => Or.inr (⟨rfl, by show zI (hm' 0 0) = _; rw [h0]; rfl, by decide, hh, hs, hr, hm', rfl, rfl, rfl, rfl, hR'⟩)))
  simp only [zI_of] at t5 t4
  exact ⟨zI b, zS hm', t5, t4⟩
def SimI_rulingFromBelow (R : ISt → ISt → ISt → ISt → Prop) : Prop := ∀ (hh hs hr hm : ISt) (a1 : Int), inR a1 → R hh hs hr hm → ∃ (b : Int) (hm' : ISt), Q_X5_rulingFromBelow hm a1 b hm' ∧ ∀ (ok : Int → ISt → ISt → ISt → Prop) (ex : String → Prop), (∀ h' s' r' : ISt, hm' 0 0 = 0 → R h' s' r' hm' → ok b h' s' r') → (hm' 0 0 = 1 → R hh hs hr hm' → ex E_i) → (hm' 0 0 = 2 → R hh hs hr hm' → ex E_s) → Q_X4_rulingFromBelow hh hs hr a1 ok ex
theorem sim_rulingFromBelow {R : ISt → ISt → ISt → ISt → Prop} (h : SimI_rulingFromBelow R) : Sim_rulingFromBelow (RelP R) := by
  intro gh gs gr gm a1 hrel
  obtain ⟨hh, hs, hr, hm, rfl, rfl, rfl, rfl, hR⟩ := hrel
  obtain ⟨b, hm', h5, h4⟩ := h hh hs hr hm a1.toInt (inR_of a1) hR
  have t5 := t_X5_rulingFromBelow hm a1.toInt b hm' h5
  have t4 := t_X4_rulingFromBelow hh hs hr a1.toInt (fun (r : Int32) (gh' gs' gr' : St) => (zS hm') 0 0 = 0 ∧ r = zI b ∧ RelP R gh' gs' gr' (zS hm')) (fun E : String => (E = E_i ∧ ((zS hm') 0 0 = 1 ∧ ¬ (1 : Int32) = 0 ∧ RelP R (zS hh) (zS hs) (zS hr) (zS hm'))) ∨ (E = E_s ∧ ((zS hm') 0 0 = 2 ∧ ¬ (2 : Int32) = 0 ∧ RelP R (zS hh) (zS hs) (zS hr) (zS hm')))) (h4 _ _ (fun h' s' r' h0 hR' => (⟨by show zI (hm' 0 0) = _; rw [h0]; rfl, rfl, h', s', r', hm', rfl, rfl, rfl, rfl, hR'⟩ : zS hm' 0 0 = 0 ∧ zI b = zI b ∧ RelP R (zS h') (zS s') (zS r') (zS hm'))) (fun h0 hR' => Or.inl ⟨rfl, by show zI (hm' 0 0) = _; rw [h0]; rfl, by decide, hh, hs, hr, hm', rfl, rfl, rfl, rfl, hR'⟩) (fun h0 hR' => Or.inr (⟨rfl, by show zI (hm' 0 0) = _; rw [h0]; rfl, by decide, hh, hs, hr, hm', rfl, rfl, rfl, rfl, hR'⟩)))
  simp only [zI_of] at t5 t4
  exact ⟨zI b, zS hm', t5, t4⟩
def SimI_depth (R : ISt → ISt → ISt → ISt → Prop) : Prop := ∀ (hh hs hr hm : ISt) (a1 : Int), inR a1 → R hh hs hr hm → ∃ (b : Int) (hm' : ISt), Q_X5_depth hm a1 b hm' ∧ ∀ (ok : Int → ISt → ISt → ISt → Prop) (ex : String → Prop), (∀ h' s' r' : ISt, hm' 0 0 = 0 → R h' s' r' hm' → ok b h' s' r') → (hm' 0 0 = 1 → R hh hs hr hm' → ex E_i) → Q_X4_depth hh hs hr a1 ok ex
theorem sim_depth {R : ISt → ISt → ISt → ISt → Prop} (h : SimI_depth R) : Sim_depth (RelP R) := by
  intro gh gs gr gm a1 hrel
  obtain ⟨hh, hs, hr, hm, rfl, rfl, rfl, rfl, hR⟩ := hrel
  obtain ⟨b, hm', h5, h4⟩ := h hh hs hr hm a1.toInt (inR_of a1) hR
  have t5 := t_X5_depth hm a1.toInt b hm' h5
  have t4 := t_X4_depth hh hs hr a1.toInt (fun (r : Int32) (gh' gs' gr' : St) => (zS hm') 0 0 = 0 ∧ r = zI b ∧ RelP R gh' gs' gr' (zS hm')) (fun E : String => (E = E_i ∧ ((zS hm') 0 0 = 1 ∧ ¬ (1 : Int32) = 0 ∧ RelP R (zS hh) (zS hs) (zS hr) (zS hm')))) (h4 _ _ (fun h' s' r' h0 hR' => (⟨by show zI (hm' 0 0) = _; rw [h0]; rfl, rfl, h', s', r', hm', rfl, rfl, rfl, rfl, hR'⟩ : zS hm' 0 0 = 0 ∧ zI b = zI b ∧ RelP R (zS h') (zS s') (zS r') (zS hm'))) (fun h0 hR' => ⟨rfl, by show zI (hm' 0 0) = _; rw [h0]; rfl, by decide, hh, hs, hr, hm', rfl, rfl, rfl, rfl, hR'⟩))
  simp only [zI_of] at t5 t4
  exact ⟨zI b, zS hm', t5, t4⟩
