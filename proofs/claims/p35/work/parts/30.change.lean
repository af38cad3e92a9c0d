/-! ===== what the changing calls do ===== -/
section CG
variable {g : Nat → Int32} {μ m : Mu} {T N B t k n : Nat} {v w : Int32}
theorem chg (hO : Hok μ) {i : Nat} (hi : i < 253) : (pM (sp_X0_record μ) 0 i v).1 0 = ur (μ.1 0) i v ∧ Hk (pM (sp_X0_record μ) 0 i v) (μ.1 0) := by
  obtain ⟨a, b, -⟩ := rec_hk hO
  exact ⟨by rw [row_s, b], hk_pM a hi⟩
theorem rg32 {L H : Int32} {L' H' : Int64} (hL : L.toInt64 = L') (hH : H.toInt64 = H') (h : L.toInt ≤ v.toInt ∧ v.toInt ≤ H.toInt) : L' ≤ v.toInt64 ∧ v.toInt64 ≤ H' := (i2g hL hH).mpr ⟨Int32.le_iff_toInt_le.mpr h.1, Int32.le_iff_toInt_le.mpr h.2⟩
theorem ld_v (h1 : μ.1 0 1 = nI N) (hN : N ≤ 6) (hk : k < N) (hO : Hok μ) {j ws : Nat} (hw : μ.1 0 (sF k 1) = nI ws) (hw4 : ws ≤ 4) (hj : j < ws) (hv : 0 ≤ v.toInt ∧ v.toInt ≤ 50000) : (sp_X7_lead μ (nI k) (nI j) v).1 = μ.1 0 (sF k (12 + j)) ∧ (sp_X7_lead μ (nI k) (nI j) v).2.1 0 = ur (μ.1 0) (sF k (12 + j)) v ∧ Hk (sp_X7_lead μ (nI k) (nI j) v).2 (μ.1 0) := by
  have e : sp_X7_lead μ (nI k) (nI j) v = (μ.1 0 (sF k (12 + j)), pM (sp_X0_record μ) 0 (sF k (12 + j)) v) := by
    unfold sp_X7_lead
    refine (oc_some (sen_at h1 hN hk)).trans ?_
    rw [hw, if_pos ⟨nI_pos' (by omega), (nI_ltI (by omega) (by omega)).mpr hj⟩, if_pos (rg32 (L := 0) (H := 50000) (by decide) (by decide) hv), (rec_hk hO).2.1, lead_j (by omega), setl_j (by omega)]
  rw [e]
  exact ⟨rfl, chg hO (by unfold sF; omega)⟩
theorem i2t' (h : -200000 ≤ w.toInt ∧ w.toInt ≤ 850000) : (-200000 : Int64) ≤ w.toInt64 ∧ w.toInt64 ≤ 850000 := (i2t w).mpr ⟨by rw [Int32.le_iff_toInt_le, show (-200000 : Int32).toInt = -200000 by decide]; omega, by rw [Int32.le_iff_toInt_le, show (850000 : Int32).toInt = 850000 by decide]; omega⟩
theorem cb_v (h0 : g 0 = nI T) (hT : T ≤ 3) (ht : t < T) (he : g (sF k 0) = nI t) : sp_X4_canBring g k w = if sp_X5_goesTo g t w = 0 then 0 else 1 := by
  unfold sp_X4_canBring
  rw [he]
  exact oc_some (tab_at h0 hT ht)
theorem bt_v (h0 : μ.1 0 0 = nI T) (hT : T ≤ 3) (ht : t < T) (hb : Tb (μ.1 0) t 4) (he : μ.1 0 (sF k 0) = nI t) (h1 : μ.1 0 1 = nI N) (hN : N ≤ 6) (hk : k < N) (hO : Hok μ) (hw : -200000 ≤ w.toInt ∧ w.toInt ≤ 850000) : (¬ (dI (μ.1 0) t 0 ≤ w.toInt ∧ w.toInt ≤ dI (μ.1 0) t 3) ∧ sp_X7_bath μ (nI k) w = (-2000000002, μ)) ∨ ((sp_X7_bath μ (nI k) w).1 = μ.1 0 (sF k 4) ∧ (sp_X7_bath μ (nI k) w).2.1 0 = ur (μ.1 0) (sF k 4) w ∧ Hk (sp_X7_bath μ (nI k) w).2 (μ.1 0)) := by
  by_cases c : dI (μ.1 0) t 0 ≤ w.toInt ∧ w.toInt ≤ dI (μ.1 0) t 3
  · have e : sp_X7_bath μ (nI k) w = (μ.1 0 (sF k 4), pM (sp_X0_record μ) 0 (sF k 4) w) := by
      unfold sp_X7_bath
      refine (oc_some (sen_at h1 hN hk)).trans ?_
      rw [if_pos (i2t' hw), cb_v h0 hT ht he, go_1 hb c.1 c.2, if_neg (show ¬ (1 : Int32) = 0 by decide), if_neg (show ¬ (1 : Int32) = 0 by decide), (rec_hk hO).2.1]
    rw [e]
    exact Or.inr ⟨rfl, chg hO (by unfold sF; omega)⟩
  · refine Or.inl ⟨c, ?_⟩
    unfold sp_X7_bath
    refine (oc_some (sen_at h1 hN hk)).trans ?_
    rw [if_pos (i2t' hw), cb_v h0 hT ht he, go_0 hb c, if_pos (show (0 : Int32) = 0 from rfl), if_pos (show (0 : Int32) = 0 from rfl)]
theorem st_v (hO : Hok μ) {i : Nat} (hi : i < 7) (hv : ¬ v < zl0.getD i 0 ∧ ¬ zl1.getD i 0 < v) : (sp_X7_set μ (nI i) v).1 = μ.1 0 (3 + i) ∧ (sp_X7_set μ (nI i) v).2.1 0 = ur (μ.1 0) (3 + i) v ∧ Hk (sp_X7_set μ (nI i) v).2 (μ.1 0) := by
  have e1 : sp_X7_isInRow v (nI i) = 1 := by
    unfold sp_X7_isInRow
    rw [if_neg (nI_pos (by omega)), if_neg (by rw [show (7 : Int32) = nI 7 from rfl, nI_leI (by omega) (by omega)]; omega), if_neg (by rw [show (7 : Int32) = nI 7 from rfl, nI_leI (by omega) (by omega)]; omega), nI_clamp (by omega), if_neg hv.1, if_neg hv.2]
  have e2 : ∀ m : Mu, sp_X4_changeSetting m 0 (nI i) v = pM m 0 (3 + i) v := fun m => by
    unfold sp_X4_changeSetting
    rw [if_neg (nI_pos (by omega)), if_neg (by rw [show (7 : Int32) = nI 7 from rfl, nI_leI (by omega) (by omega)]; omega), nI_clamp (by omega)]
  have e : sp_X7_set μ (nI i) v = (μ.1 0 (3 + i), pM (sp_X0_record μ) 0 (3 + i) v) := by
    unfold sp_X7_set
    rw [e1, if_neg (by decide), e2, (rec_hk hO).2.1, set_j hi]
  rw [e]
  exact ⟨rfl, chg hO (by omega)⟩
theorem dr_v (h1 : μ.1 0 1 = nI N) (hN : N ≤ 6) (hk : k < N) (hO : Hok μ) (hv : -100000 ≤ v.toInt ∧ v.toInt ≤ 100000) : sp_X7_drift μ (nI k) v = (-2000000002, μ) ∨ ∃ b : Int32, (1000 ≤ b.toInt ∧ b.toInt ≤ 2000000) ∧ (sp_X7_drift μ (nI k) v).1 = b ∧ (sp_X7_drift μ (nI k) v).2.1 0 = ur (μ.1 0) (sF k 2) b ∧ Hk (sp_X7_drift μ (nI k) v).2 (μ.1 0) := by
  by_cases c : (1000 : Int64) ≤ ((μ.1 0 (sF k 2)).toInt64 * (1000000 + v.toInt64)) / 1000000 ∧ ((μ.1 0 (sF k 2)).toInt64 * (1000000 + v.toInt64)) / 1000000 ≤ 2000000
  · refine Or.inr ⟨(((μ.1 0 (sF k 2)).toInt64 * (1000000 + v.toInt64)) / 1000000).toInt32, l2i c, ?_⟩
    have e : sp_X7_drift μ (nI k) v = ((((μ.1 0 (sF k 2)).toInt64 * (1000000 + v.toInt64)) / 1000000).toInt32, pM (sp_X0_record μ) 0 (sF k 2) (((μ.1 0 (sF k 2)).toInt64 * (1000000 + v.toInt64)) / 1000000).toInt32) := by
      unfold sp_X7_drift
      refine (oc_some (sen_at h1 hN hk)).trans ?_
      rw [if_pos (rg32 (L := -100000) (H := 100000) (by decide) (by decide) hv), if_pos c]
    rw [e]
    exact ⟨rfl, chg hO (by unfold sF; omega)⟩
  · refine Or.inl ?_
    unfold sp_X7_drift
    refine (oc_some (sen_at h1 hN hk)).trans ?_
    rw [if_pos (rg32 (L := -100000) (H := 100000) (by decide) (by decide) hv), if_neg c]
theorem bit_c (x : Int32) : x &&& 1 = 0 ∨ x &&& 1 = 1 := by
  have h : (x &&& 1).toBitVec.toNat < 2 := by
    show (x.toBitVec &&& 1#32).toNat < 2
    rw [BitVec.toNat_and]
    exact Nat.lt_of_le_of_lt Nat.and_le_right (by decide)
  have e : ∀ y : Int32, y.toBitVec.toNat < 2 → y = 0 ∨ y = 1 := by
    intro y hy
    rcases (show y.toBitVec.toNat = 0 ∨ y.toBitVec.toNat = 1 by omega) with q | q
    · exact Or.inl (Int32.toBitVec_inj.mp (BitVec.eq_of_toNat_eq q))
    · exact Or.inr (Int32.toBitVec_inj.mp (BitVec.eq_of_toNat_eq q))
  exact e _ h
theorem and63 (x : Int32) : 0 ≤ (x &&& 63).toInt := by
  have h : (x.toBitVec &&& 63#32).toNat < 64 := by
    rw [BitVec.toNat_and]
    exact Nat.lt_of_le_of_lt Nat.and_le_right (by decide)
  show 0 ≤ (x.toBitVec &&& 63#32).toInt
  rw [BitVec.toInt_eq_toNat_of_lt (by omega)]
  omega
theorem bc_p (x : Int32) : 0 ≤ (sp_J6_bitCount_0f7a4 x).toInt := by
  unfold sp_J6_bitCount_0f7a4
  exact and63 _
theorem ct_v (h1 : μ.1 0 1 = nI N) (hN : N ≤ 6) (hk : k < N) (hO : Hok μ) {j ws : Nat} (hw : μ.1 0 (sF k 1) = nI ws) (hw4 : ws ≤ 4) (hj : j < ws) : 0 ≤ (sp_X7_cut μ (nI k) (nI j) (1 - (μ.1 0 (sF k 5) >>> (nI j &&& 31) &&& 1))).1.toInt ∧ ∃ b : Int32, (sp_X7_cut μ (nI k) (nI j) (1 - (μ.1 0 (sF k 5) >>> (nI j &&& 31) &&& 1))).2.1 0 = ur (μ.1 0) (sF k 5) b ∧ Hk (sp_X7_cut μ (nI k) (nI j) (1 - (μ.1 0 (sF k 5) >>> (nI j &&& 31) &&& 1))).2 (μ.1 0) := by
  have key : ∀ v : Int32, sp_X7_cut μ (nI k) (nI j) v = (sp_J6_bitCount_0f7a4 ((sp_X3_turnWire (sp_X0_record μ) 0 k (nI j)).1 0 (sF k 5)), sp_X3_turnWire (sp_X0_record μ) 0 k (nI j)) → 0 ≤ (sp_X7_cut μ (nI k) (nI j) v).1.toInt ∧ ∃ b : Int32, (sp_X7_cut μ (nI k) (nI j) v).2.1 0 = ur (μ.1 0) (sF k 5) b ∧ Hk (sp_X7_cut μ (nI k) (nI j) v).2 (μ.1 0) := by
    intro v e
    rw [e]
    exact ⟨bc_p _, _, chg hO (by unfold sF; omega)⟩
  have hw' : (0 : Int32) ≤ nI j ∧ nI j < μ.1 0 (sF k 1) := ⟨nI_pos' (by omega), by rw [hw]; exact (nI_ltI (by omega) (by omega)).mpr hj⟩
  rcases bit_c (μ.1 0 (sF k 5) >>> (nI j &&& 31)) with q | q
  · rw [q, show (1 - 0 : Int32) = 1 by decide]
    refine key 1 ?_
    unfold sp_X7_cut
    refine (oc_some (sen_at h1 hN hk)).trans ?_
    rw [if_pos hw', if_pos (by decide), if_pos rfl, bz_f (show ¬ μ.1 0 (sF k 5) >>> (nI j &&& 31) &&& 1 = 1 by rw [q]; decide), if_neg (by decide)]
  · rw [q, show (1 - 1 : Int32) = 0 by decide]
    refine key 0 ?_
    unfold sp_X7_cut
    refine (oc_some (sen_at h1 hN hk)).trans ?_
    rw [if_pos hw', if_pos (by decide), if_neg (by decide), if_pos q]
theorem sr_v (h1 : μ.1 0 1 = nI N) (hN : N ≤ 6) (hk : k < N) (hO : Hok μ) {i : Nat} (hi : i < 3) (hv : ¬ v < zl2.getD i 0 ∧ ¬ zl3.getD i 0 < v) : (sp_X7_strain μ (nI k) (nI i) v).1 = μ.1 0 (sF k (16 + i)) ∧ (sp_X7_strain μ (nI k) (nI i) v).2.1 0 = ur (μ.1 0) (sF k (16 + i)) v ∧ Hk (sp_X7_strain μ (nI k) (nI i) v).2 (μ.1 0) := by
  have e1 : sp_X7_isInRowS v (nI i) = 1 := by
    unfold sp_X7_isInRowS
    rw [if_neg (nI_pos (by omega)), if_neg (by rw [show (3 : Int32) = nI 3 from rfl, nI_leI (by omega) (by omega)]; omega), if_neg (by rw [show (3 : Int32) = nI 3 from rfl, nI_leI (by omega) (by omega)]; omega), nI_clamp (by omega), if_neg hv.1, if_neg hv.2]
  have e : sp_X7_strain μ (nI k) (nI i) v = (μ.1 0 (sF k (16 + i)), pM (sp_X0_record μ) 0 (sF k (16 + i)) v) := by
    unfold sp_X7_strain
    refine (oc_some (sen_at h1 hN hk)).trans ?_
    rw [e1, if_neg (by decide), (rec_hk hO).2.1, stra_j hi, sets_j hi]
  rw [e]
  exact ⟨rfl, chg hO (by unfold sF; omega)⟩
/-! logging -/
theorem lg_v (h10 : m.1 0 (sF k 10) = 0) (h7 : ¬ w < m.1 0 (sF k 7)) (h8 : w ≤ m.1 0 (sF k 8)) (hk : k < 6) : (sp_X3_log m 0 k w).1 6 = m.1 6 ∧ (∀ g0, Hk m g0 → Hk (sp_X3_log m 0 k w) g0) ∧ (sp_X3_log m 0 k w).1 0 (sF k 19) = w ∧ (sp_X3_log m 0 k w).1 0 (sF k 11) = m.1 0 (sF k 11) + 1 ∧ (∀ f, f < 19 → f ≠ 11 → (sp_X3_log m 0 k w).1 0 (sF k f) = m.1 0 (sF k f)) ∧ ∀ y, (y < 85 + 28 * k ∨ 85 + 28 * k + 28 ≤ y) → (sp_X3_log m 0 k w).1 0 y = m.1 0 y := by
  unfold sp_X3_log
  rw [if_pos h10, if_neg h7, if_pos h8, if_neg (by rw [h10]; decide)]
  refine ⟨?_, fun g0 hg => ?_, ?_, ?_, fun f hf hne => ?_, fun y hy => ?_⟩
  · rw [row_n _ (by decide), row_n _ (by decide), row_n _ (by decide), row_n _ (by decide), row_n _ (by decide), row_n _ (by decide), row_n _ (by decide), row_n _ (by decide), row_n _ (by decide), row_n _ (by decide)]
  · exact hk_pM (hk_pM (hk_pM (hk_pM (hk_pM (hk_pM (hk_pM (hk_pM (hk_pM (hk_pM hg (by unfold sF; omega)) (by unfold sF; omega)) (by unfold sF; omega)) (by unfold sF; omega)) (by unfold sF; omega)) (by unfold sF; omega)) (by unfold sF; omega)) (by unfold sF; omega)) (by unfold sF; omega)) (by unfold sF; omega)
  · rw [row_k _ (by unfold sF; omega)]; exact row_at _
  · exact row_at _
  · rw [row_k _ (by unfold sF; omega), row_k _ (by unfold sF; omega), row_k _ (by unfold sF; omega), row_k _ (by unfold sF; omega), row_k _ (by unfold sF; omega), row_k _ (by unfold sF; omega), row_k _ (by unfold sF; omega), row_k _ (by unfold sF; omega), row_k _ (by unfold sF; omega), row_k _ (by unfold sF; omega)]
  · rw [row_k _ (by unfold sF; omega), row_k _ (by unfold sF; omega), row_k _ (by unfold sF; omega), row_k _ (by unfold sF; omega), row_k _ (by unfold sF; omega), row_k _ (by unfold sF; omega), row_k _ (by unfold sF; omega), row_k _ (by unfold sF; omega), row_k _ (by unfold sF; omega), row_k _ (by unfold sF; omega)]
/-- logging keeps what the law keeps -/
theorem lg_gd (h : Gd (m.1 0) T N B) (hk : k < N) (hB : B < 1000) (hw : -200000 ≤ w.toInt ∧ w.toInt ≤ 850000) : Gd ((sp_X3_log m 0 k w).1 0) T N (B + 1) ∧ (sp_X3_log m 0 k w).1 6 = m.1 6 ∧ (∀ g0, Hk m g0 → Hk (sp_X3_log m 0 k w) g0) ∧ (sp_X3_log m 0 k w).1 0 (sF k 19) = w ∧ (sp_X3_log m 0 k w).1 0 (sF k 11) = m.1 0 (sF k 11) + 1 ∧ (∀ f, f < 19 → f ≠ 11 → (sp_X3_log m 0 k w).1 0 (sF k f) = m.1 0 (sF k f)) ∧ ∀ y, (y < 85 + 28 * k ∨ 85 + 28 * k + 28 ≤ y) → (sp_X3_log m 0 k w).1 0 y = m.1 0 y := by
  have hs := h.2.2.2.2.1 k hk
  have h4 := h.1.2
  obtain ⟨s1, s2, s3, s4, s5, s6, ⟨s7, s8, s9, s10⟩, ⟨r, hr, s11⟩, s12, s13⟩ := id hs
  obtain ⟨a1, a2, a3, a4, a5, a6⟩ := lg_v (m := m) (k := k) (w := w) s10 (by rw [s7, Int32.lt_iff_toInt_lt, show (-200000 : Int32).toInt = -200000 by decide]; omega) (by rw [s8, Int32.le_iff_toInt_le, show (850000 : Int32).toInt = 850000 by decide]; omega) (by omega)
  refine ⟨gd_sen h (Nat.le_succ B) (fun y _ hy => a6 y hy) ?_ hk, a1, a2, a3, a4, a5, a6⟩
  unfold Sn
  rw [a4, a5 0 (by decide) (by decide), a5 1 (by decide) (by decide), a5 2 (by decide) (by decide), a5 3 (by decide) (by decide), a5 4 (by decide) (by decide), a5 6 (by decide) (by decide), a5 7 (by decide) (by decide), a5 8 (by decide) (by decide), a5 9 (by decide) (by decide), a5 10 (by decide) (by decide), a5 16 (by decide) (by decide), a5 18 (by decide) (by decide)]
  exact ⟨s1, s2, s3, s4, s5, s6, ⟨s7, s8, s9, s10⟩, ⟨r + 1, by omega, by rw [s11, nI_1]⟩, s12, s13⟩
end CG
