/-! ===== the history: what is kept, what an undo brings back ===== -/
def Hok (u : Mu) : Prop := ∃ st, st ≤ 4 ∧ u.1 6 0 = nI st ∧ KOk u.2.2
/-- the latest kept state is g0 -/
def Hk (u : Mu) (g0 : Nat → Int32) : Prop := ∃ st, st < 4 ∧ u.1 6 0 = nI (st + 1) ∧ KOk u.2.2 ∧ (∀ y, y < 253 → u.1 (u.2.2 st) y = g0 y) ∧ ∀ y, 253 ≤ y → u.1 0 y = g0 y
/-- measuring alone -/
def Same (μ u : Mu) : Prop := (∀ j, j < 6 → u.1 j = μ.1 j) ∧ u.1 6 0 = μ.1 6 0 ∧ u.2.2 = μ.2.2
theorem Same.rf {μ : Mu} : Same μ μ := ⟨fun _ _ => rfl, rfl, rfl⟩
theorem Same.tr {a b c : Mu} (h : Same a b) (h2 : Same b c) : Same a c := ⟨fun j hj => (h2.1 j hj).trans (h.1 j hj), h2.2.1.trans h.2.1, h2.2.2.trans h.2.2⟩
theorem Same.g {a b : Mu} (h : Same a b) : b.1 0 = a.1 0 := h.1 0 (by decide)
theorem Hok.K {u : Mu} (h : Hok u) : KOk u.2.2 := by
  obtain ⟨st, -, -, k⟩ := h
  exact k
theorem Hok.same {μ u : Mu} (h : Hok μ) (s : Same μ u) : Hok u := by
  obtain ⟨st, a, b, k⟩ := h
  exact ⟨st, a, s.2.1.trans b, by rw [s.2.2]; exact k⟩
theorem Hk.same {μ u : Mu} {g0 : Nat → Int32} (h : Hk μ g0) (s : Same μ u) : Hk u g0 := by
  obtain ⟨st, a, b, k, d, e⟩ := h
  have hk := k st a
  refine ⟨st, a, s.2.1.trans b, by rw [s.2.2]; exact k, fun y hy => ?_, fun y hy => ?_⟩
  · rw [s.2.2, s.1 _ hk.2]; exact d y hy
  · rw [s.g]; exact e y hy
theorem Hk.ok {u : Mu} {g0 : Nat → Int32} (h : Hk u g0) : Hok u := by
  obtain ⟨st, a, b, k, -, -⟩ := h
  exact ⟨st + 1, by omega, b, k⟩
theorem rec_hk {μ : Mu} (h : Hok μ) : Hk (sp_X0_record μ) (μ.1 0) ∧ (sp_X0_record μ).1 0 = μ.1 0 ∧ ∀ k, k ≠ 0 → (sp_X0_record μ).1 6 k = μ.1 6 k := by
  obtain ⟨st, a, b, k⟩ := h
  obtain ⟨r1, r2, r3, r4, r5, r6⟩ := rec_ok μ b a k
  have kk := Kr_ok (st := st) k
  have k3 := kk (min st 3) (by omega)
  have e0 : (sp_X0_record μ).1 0 = μ.1 0 := r5 0 (by omega) (by omega)
  refine ⟨⟨min st 3, by omega, r3, by rw [r2]; exact kk, fun y hy => ?_, fun y _ => by rw [e0]⟩, e0, r6⟩
  rw [r2]
  exact r4 y hy
theorem hk_pM {u : Mu} {g0 : Nat → Int32} {k : Nat} {v : Int32} (h : Hk u g0) (hk : k < 253) : Hk (pM u 0 k v) g0 := by
  obtain ⟨st, a, b, kk, d, e⟩ := h
  have hs := kk st a
  refine ⟨st, a, ?_, kk, fun y hy => ?_, fun y hy => ?_⟩
  · rw [row_n _ (by omega)]; exact b
  · show (pM u 0 k v).1 (u.2.2 st) y = _
    rw [row_n _ (by omega)]; exact d y hy
  · rw [row_k _ (by omega)]; exact e y hy
theorem same_msr (μ : Mu) (n : Nat) : Same μ (msr μ 0 n) := ⟨fun j hj => ms_M _ _ (by omega), ms_6 _ _ _ (by omega) (by omega), rfl⟩
theorem same_tk (μ : Mu) (z n : Nat) (cu : Int32) : Same μ (tkJ μ z 0 n cu) := ⟨fun _ _ => rfl, rfl, rfl⟩
theorem undo_hk {u : Mu} {g0 : Nat → Int32} (h : Hk u g0) : (∃ st, st < 4 ∧ (sp_X7_undo u).1 = nI st) ∧ (sp_X7_undo u).2.1 0 = g0 ∧ Hok (sp_X7_undo u).2 := by
  obtain ⟨st, a, b, kk, d, e⟩ := h
  have hs := kk st a
  unfold sp_X7_undo
  rw [b, if_neg (nI_ne0 (by omega) (by omega))]
  unfold sp_X0_restore
  rw [b, if_neg (nI_nle (by omega) (by omega)), if_neg (show ¬ (4 : Int32) < nI (st + 1) by rw [show (4 : Int32) = nI 4 from rfl, nI_ltI (by omega) (by omega)]; omega), nI_pred, nI_clamp (by omega)]
  obtain ⟨c1, c2, c3, c4⟩ := cp_X4 (pM u 6 0 (nI st)) (j := 0) (j2 := u.2.2 st) (by omega)
  generalize sp_X4_copy (pM u 6 0 (nI st)) 0 (u.2.2 st) = m at *
  have e6 : m.1 6 0 = nI st := by rw [c2 6 (by omega)]; exact row_at _
  have eK : m.2.2 = u.2.2 := by rw [c1]; rfl
  refine ⟨⟨st, a, e6⟩, ?_, ⟨st, by omega, e6, by rw [eK]; exact kk⟩⟩
  funext y
  show m.1 0 y = g0 y
  by_cases hy : y < 253
  · rw [c3 y hy, row_n _ (by omega)]; exact d y hy
  · rw [c4 y hy, row_n _ (by omega)]; exact e y (by omega)
/-! ===== a state of the bridge, as the law keeps it ===== -/
def Sts (g : Nat → Int32) : Prop := (10000 ≤ (g 3).toInt ∧ (g 3).toInt ≤ 1000000) ∧ (100 ≤ (g 4).toInt ∧ (g 4).toInt ≤ 5000) ∧ (100 ≤ (g 5).toInt ∧ (g 5).toInt ≤ 5000) ∧ 8 ≤ (g 6).toInt ∧ (g 6).toInt ≤ 24
/-- a sensor: of a table of T, at the place pl, with at most B readings -/
def Sn (g : Nat → Int32) (T B k : Nat) (pl : Int32) : Prop := (∃ t, t < T ∧ g (sF k 0) = nI t) ∧ g (sF k 1) = nI (2 + k % 3) ∧ (1000 ≤ (g (sF k 2)).toInt ∧ (g (sF k 2)).toInt ≤ 2000000) ∧ (1000 ≤ (g (sF k 3)).toInt ∧ (g (sF k 3)).toInt ≤ 2000000) ∧ (-200000 ≤ (g (sF k 4)).toInt ∧ (g (sF k 4)).toInt ≤ 850000) ∧ g (sF k 6) = pl ∧ (g (sF k 7) = -200000 ∧ g (sF k 8) = 850000 ∧ g (sF k 9) = 0 ∧ g (sF k 10) = 0) ∧ (∃ r, r ≤ B ∧ g (sF k 11) = nI r) ∧ 0 ≤ (g (sF k 16)).toInt ∧ (g (sF k 18) = 0 ∨ g (sF k 18) = 1)
abbrev plc (k : Nat) : Nat := k % 3 * 3 + k / 3
/-- a row that no sensor uses yet -/
def Fs (g : Nat → Int32) (k : Nat) : Prop := g (sF k 6) = -1 ∧ g (sF k 11) = 0 ∧ g (sF k 16) = 0 ∧ g (sF k 18) = 0
def Gd (g : Nat → Int32) (T N B : Nat) : Prop := (T ≤ 2 ∧ N ≤ 4) ∧ (g 0 = nI T ∧ g 1 = nI N) ∧ Sts g ∧ (∀ t, t < T → Tb g t 4) ∧ (∀ k, k < N → Sn g T B k (nI (plc k))) ∧ ∀ k, N ≤ k → k < 6 → Fs g k
section GD
variable {g g' : Nat → Int32} {T N B : Nat}
theorem tb_eq {t n : Nat} (h : Tb g t n) (e : ∀ y, 10 + 25 * t ≤ y → y < 35 + 25 * t → g' y = g y) (hn : n ≤ 12) : Tb g' t n := by
  obtain ⟨a, b, c⟩ := h
  have e1 : ∀ k, k < 12 → g' (tD t k) = g (tD t k) := fun k hk => e _ (by unfold tD; omega) (by unfold tD; omega)
  have e2 : ∀ k, k < 12 → g' (tR t k) = g (tR t k) := fun k hk => e _ (by unfold tR; omega) (by unfold tR; omega)
  refine ⟨by rw [e _ (by unfold tN; omega) (by unfold tN; omega)]; exact a, fun k hk => ?_, fun k hk => ?_⟩
  · unfold dI rI
    rw [e1 _ (by omega), e1 _ (by omega), e2 _ (by omega), e2 _ (by omega)]
    exact b k hk
  · unfold dI rI
    rw [e1 _ (by omega), e2 _ (by omega)]
    exact c k hk
theorem sn_eq {B' k : Nat} {pl : Int32} (h : Sn g T B k pl) (hB : B ≤ B') (e : ∀ f, f < 28 → g' (sF k f) = g (sF k f)) : Sn g' T B' k pl := by
  obtain ⟨h1, h2, h3, h4, h5, h6, h7, ⟨r, hr, h8⟩, h9, h10⟩ := h
  unfold Sn
  rw [e 0 (by decide), e 1 (by decide), e 2 (by decide), e 3 (by decide), e 4 (by decide), e 6 (by decide), e 7 (by decide), e 8 (by decide), e 9 (by decide), e 10 (by decide), e 11 (by decide), e 16 (by decide), e 18 (by decide)]
  exact ⟨h1, h2, h3, h4, h5, h6, h7, ⟨r, by omega, h8⟩, h9, h10⟩
theorem fs_eq {k : Nat} (h : Fs g k) (e : ∀ f, f < 28 → g' (sF k f) = g (sF k f)) : Fs g' k := by
  unfold Fs
  rw [e 6 (by decide), e 11 (by decide), e 16 (by decide), e 18 (by decide)]
  exact h
theorem gd_mono {B' : Nat} (h : Gd g T N B) (hB : B ≤ B') : Gd g T N B' := ⟨h.1, h.2.1, h.2.2.1, h.2.2.2.1, fun k hk => sn_eq (h.2.2.2.2.1 k hk) hB (fun _ _ => rfl), h.2.2.2.2.2⟩
/-- one sensor changes, the scanner too -/
theorem gd_sen {B' k : Nat} (h : Gd g T N B) (hB : B ≤ B') (e : ∀ y, y ≠ 2 → (y < 85 + 28 * k ∨ 85 + 28 * k + 28 ≤ y) → g' y = g y) (hS : Sn g' T B' k (nI (plc k))) (hk : k < N) : Gd g' T N B' := by
  obtain ⟨⟨hT, hN⟩, ⟨h0, h1⟩, hs, ht, hn, hf⟩ := h
  have ek : ∀ n, n ≠ k → ∀ f, f < 28 → g' (sF n f) = g (sF n f) := fun n hne f hf => e _ (by unfold sF; omega) (by unfold sF; omega)
  refine ⟨⟨hT, hN⟩, ⟨by rw [e 0 (by omega) (by omega)]; exact h0, by rw [e 1 (by omega) (by omega)]; exact h1⟩, ?_, fun t htt => tb_eq (ht t htt) (fun y h1 h2 => e y (by omega) (by omega)) (by decide), fun n hnn => ?_, fun n h1 h2 => fs_eq (hf n h1 h2) (ek n (by omega))⟩
  · unfold Sts
    rw [e 3 (by omega) (by omega), e 4 (by omega) (by omega), e 5 (by omega) (by omega), e 6 (by omega) (by omega)]
    exact hs
  · by_cases c : n = k
    · subst c; exact hS
    · exact sn_eq (hn n hnn) hB (ek n c)
/-- a setting changes -/
theorem gd_set (h : Gd g T N B) (e : ∀ y, (y < 3 ∨ 10 ≤ y) → g' y = g y) (hs : Sts g') : Gd g' T N B := by
  obtain ⟨⟨hT, hN⟩, ⟨h0, h1⟩, -, ht, hn, hf⟩ := h
  exact ⟨⟨hT, hN⟩, ⟨by rw [e 0 (by omega)]; exact h0, by rw [e 1 (by omega)]; exact h1⟩, hs, fun t htt => tb_eq (ht t htt) (fun y h1 h2 => e y (by omega)) (by decide), fun n hnn => sn_eq (hn n hnn) (Nat.le_refl _) (fun f hf => e _ (by unfold sF; omega)), fun n h1 h2 => fs_eq (hf n h1 h2) (fun f hf => e _ (by unfold sF; omega))⟩
theorem sen_at {k : Nat} (h1 : g 1 = nI N) (hN : N ≤ 6) (hk : k < N) : sp_X4_sensorAt g (nI k) = some k := by
  unfold sp_X4_sensorAt
  rw [h1, if_neg (nI_pos (by omega)), if_neg (by rw [nI_leI (by omega) (by omega)]; omega), if_neg (by rw [show (6 : Int32) = nI 6 from rfl, nI_leI (by omega) (by omega)]; omega), nI_clamp (by omega)]
theorem tab_at {t : Nat} (h0 : g 0 = nI T) (hT : T ≤ 3) (ht : t < T) : sp_X4_tableAt g (nI t) = some t := by
  unfold sp_X4_tableAt
  rw [h0, if_neg (nI_pos (by omega)), if_neg (by rw [nI_leI (by omega) (by omega)]; omega), if_neg (by rw [show (3 : Int32) = nI 3 from rfl, nI_leI (by omega) (by omega)]; omega), nI_clamp (by omega)]
theorem gd_sen_at {k : Nat} (h : Gd g T N B) (hk : k < N) : sp_X4_sensorAt g (nI k) = some k := sen_at h.2.1.2 (by have := h.1.2; omega) hk
theorem gd_tab_at {t : Nat} (h : Gd g T N B) (ht : t < T) : sp_X4_tableAt g (nI t) = some t := tab_at h.2.1.1 (by have := h.1.1; omega) ht
end GD
