/-! ===== reading, scanning; how tables and sensors come ===== -/
section CH
variable {g g' : Nat → Int32} {μ m : Mu} {T N B t k n : Nat} {v w a b : Int32}
theorem pl_ne {p : Nat} (hp : p < 100) : ¬ nI p = -1 := fun q => by
  have := congrArg Int32.toInt q
  rw [nI_toInt (by omega), show (-1 : Int32).toInt = -1 by decide] at this
  omega
theorem iv_rg {x z : Int} (hb : Tb g t 4) (h : Iv (dI g t) (rI g t) z x) : -200000 ≤ x ∧ x ≤ 850000 := by
  have b0 := hb.2.2 0 (by decide)
  have b3 := hb.2.2 3 (by decide)
  have h1 := h.1
  have h2 := h.2.1
  omega
/-- what a reading is, and leaves: x is read of sensor k, the row before is g0 -/
def Rdn (u : Mu) (g0 : Nat → Int32) (T N B k : Nat) (x : Int32) : Prop := Gd (u.1 0) T N (B + 1) ∧ Hk u g0 ∧ u.1 0 (sF k 19) = x ∧ u.1 0 (sF k 11) = g0 (sF k 11) + 1 ∧ (∀ f, f < 19 → f ≠ 11 → u.1 0 (sF k f) = g0 (sF k f)) ∧ ∀ y, y < 85 → u.1 0 y = g0 y
theorem rd_v (h : Gd (μ.1 0) T N B) (hk : k < N) (hB : B < 1000) (hO : Hok μ) : (dgn (μ.1 0) k ≠ 0 ∧ (sp_X7_read μ (nI k)).1 = -2000000002 ∧ Same μ (sp_X7_read μ (nI k)).2) ∨ (dgn (μ.1 0) k = 0 ∧ ∃ (x : Int32) (t : Nat) (z : Int), t < T ∧ (μ.1 0) (sF k 0) = nI t ∧ Iv (dI (μ.1 0) t) (rI (μ.1 0) t) z x.toInt ∧ (sp_X7_read μ (nI k)).1 = x ∧ Rdn (sp_X7_read μ (nI k)).2 (μ.1 0) T N B k x) := by
  have h4 := h.1
  have hs := h.2.2.2.2.1 k hk
  obtain ⟨t, ht, et⟩ := hs.1
  have hp : ¬ (μ.1 0) (sF k 6) = -1 := by rw [hs.2.2.2.2.2.1]; exact pl_ne (by unfold plc; omega)
  by_cases c : dgn (μ.1 0) k = 0
  · refine Or.inr ⟨c, rdg (μ.1 0) k, t, ?_⟩
    have hr : rdg (μ.1 0) k ≠ -2000000004 := by
      rcases dg_c hp with q | q | q
      · exact q.2.1
      · rw [c] at q; exact absurd q (by decide)
      · rw [c] at q; rcases q.1 with q | q | q | q | q <;> exact absurd q (by decide)
    obtain ⟨z, hz⟩ := rd_iv h.2.1.1 (by omega) ht (h.2.2.2.1 t ht) et hr
    have hrg := iv_rg (h.2.2.2.1 t ht) hz
    obtain ⟨r1, r2, r3⟩ := rec_hk (hO.same (same_msr μ k))
    have r2' : (sp_X0_record (msr μ 0 k)).1 0 = μ.1 0 := r2.trans (same_msr μ k).g
    have r1' : Hk (sp_X0_record (msr μ 0 k)) (μ.1 0) := by rw [← (same_msr μ k).g]; exact r1
    have e61 : (sp_X0_record (msr μ 0 k)).1 6 1 = rdg (μ.1 0) k := by
      rw [r3 1 (by decide)]
      unfold msr
      rw [row_k _ (by decide)]
      exact row_at _
    obtain ⟨q1, q2, q3, q4, q5, q6, q7⟩ := lg_gd (m := sp_X0_record (msr μ 0 k)) (w := rdg (μ.1 0) k) (by rw [r2']; exact h) hk hB hrg
    have e : sp_X7_read μ (nI k) = (rdg (μ.1 0) k, sp_X3_log (sp_X0_record (msr μ 0 k)) 0 k (rdg (μ.1 0) k)) := by
      unfold sp_X7_read
      refine (oc_some (sen_at h.2.1.2 (by omega) hk)).trans ?_
      rw [if_pos c, e61, q2, e61]
    rw [e]
    refine ⟨z, ht, et, hz, rfl, q1, q3 _ r1', q4, by rw [q5, r2'], fun f h1 h2 => by rw [q6 f h1 h2, r2'], fun y h1 => by rw [q7 y (by omega), r2']⟩
  · refine Or.inl ⟨c, ?_⟩
    have e : sp_X7_read μ (nI k) = (-2000000002, msr μ 0 k) := by
      unfold sp_X7_read
      refine (oc_some (sen_at h.2.1.2 (by omega) hk)).trans ?_
      rw [if_neg c]
    rw [e]
    exact ⟨rfl, same_msr _ _⟩
theorem nx_0 (h : Gd g T N B) (hN : 0 < N) (h2 : g 2 = -1) : sp_X4_nextPlugged g = nI 0 := by
  have e0 : sp_X4_sensorIn g (g 2 + 1 - (g 2 + 1) / 12 * 12) = nI 0 := by
    rw [h2, show (-1 + 1 - (-1 + 1) / 12 * 12 : Int32) = nI (plc 0) by decide]
    exact gd_in h hN
  unfold sp_X4_nextPlugged
  rw [e0, if_neg (pl_ne (by decide))]
theorem sc_v (h : Gd (μ.1 0) T N B) (hN : 0 < N) (hB : B < 1000) (hO : Hok μ) (h2 : μ.1 0 2 = -1) : (sp_X7_scan μ).1 ≠ -2000000002 ∧ Gd ((sp_X7_scan μ).2.1 0) T N (B + 1) ∧ Hk (sp_X7_scan μ).2 (μ.1 0) := by
  have h4 := h.1
  have hs := h.2.2.2.2.1 0 hN
  obtain ⟨t, ht, et⟩ := hs.1
  obtain ⟨r1, r2, r3⟩ := rec_hk hO
  obtain ⟨c1, c2⟩ := chg (v := (sp_X0_record μ).1 0 (sF 0 6)) hO (i := 2) (by decide)
  generalize hx : pM (sp_X0_record μ) 0 2 ((sp_X0_record μ).1 0 (sF 0 6)) = x at *
  have ex : ∀ y, y ≠ 2 → x.1 0 y = μ.1 0 y := fun y hy => by rw [c1]; exact ur_n hy
  have hg : Gd (x.1 0) T N B := gd_sen (k := 0) h (Nat.le_refl _) (fun y hy _ => ex y hy) (sn_eq hs (Nat.le_refl _) (fun f _ => ex _ (by unfold sF; omega))) hN
  have hp : ¬ (x.1 0) (sF 0 6) = -1 := by rw [(hg.2.2.2.2.1 0 hN).2.2.2.2.2.1]; exact pl_ne (by decide)
  have e : sp_X7_scan μ = if dgn (x.1 0) 0 = 0 then (nI 0, sp_X3_log (msr x 0 0) 0 0 (rdg (x.1 0) 0)) else (-1 - nI 0, msr x 0 0) := by
    unfold sp_X7_scan
    rw [nx_0 h hN h2]
    refine (oc_some (sen_at h.2.1.2 (by omega) hN)).trans ?_
    rw [hx]
  rw [e]
  by_cases c : dgn (x.1 0) 0 = 0
  · rw [if_pos c]
    have hr : rdg (x.1 0) 0 ≠ -2000000004 := by
      rcases dg_c hp with q | q | q
      · exact q.2.1
      · rw [c] at q; exact absurd q (by decide)
      · rw [c] at q; rcases q.1 with q | q | q | q | q <;> exact absurd q (by decide)
    obtain ⟨z, hz⟩ := rd_iv hg.2.1.1 (by omega) ht (hg.2.2.2.1 t ht) (by rw [ex _ (by unfold sF; omega)]; exact et) hr
    have hrg := iv_rg (hg.2.2.2.1 t ht) hz
    obtain ⟨q1, q2, q3, -⟩ := lg_gd (m := msr x 0 0) (w := rdg (x.1 0) 0) (by rw [(same_msr x 0).g]; exact hg) hN hB hrg
    exact ⟨(show nI 0 ≠ (-2000000002 : Int32) by decide), q1, q3 _ (c2.same (same_msr x 0))⟩
  · rw [if_neg c]
    exact ⟨(show (-1 - nI 0 : Int32) ≠ -2000000002 by decide), by rw [show ((-1 - nI 0 : Int32), msr x 0 0).2 = msr x 0 0 from rfl, (same_msr x 0).g]; exact gd_mono hg (Nat.le_succ _), c2.same (same_msr x 0)⟩
/-! tables, nodes -/
def Na (g : Nat → Int32) (T : Nat) : Prop := (g 0 = nI T ∧ g 1 = nI 0 ∧ g 2 = -1) ∧ Sts g ∧ (∀ t, t < T → Tb g t 4) ∧ (∀ t, T ≤ t → t < 3 → g (tN t) = nI 0) ∧ ∀ k, k < 6 → Fs g k
def Nb (g : Nat → Int32) (t n : Nat) : Prop := (g 0 = nI (t + 1) ∧ g 1 = nI 0 ∧ g 2 = -1) ∧ Sts g ∧ (∀ t', t' < t → Tb g t' 4) ∧ Tb g t n ∧ (∀ t', t < t' → t' < 3 → g (tN t') = nI 0) ∧ ∀ k, k < 6 → Fs g k
theorem na_gd (h : Na g T) (hT : T ≤ 2) : Gd g T 0 0 := ⟨⟨hT, Nat.zero_le _⟩, ⟨h.1.1, h.1.2.1⟩, h.2.1, h.2.2.1, fun k hk => absurd hk (Nat.not_lt_zero k), fun k _ hk => h.2.2.2.2 k hk⟩
theorem nb_na (h : Nb g t 4) : Na g (t + 1) := ⟨h.1, h.2.1, fun t' ht' => by
  by_cases c : t' = t
  · subst c; exact h.2.2.2.1
  · exact h.2.2.1 t' (by omega), fun t' h1 h2 => h.2.2.2.2.1 t' (by omega) h2, h.2.2.2.2.2⟩
theorem tl_v (h : Na (μ.1 0) T) (hT : T < 3) (hO : Hok μ) : (sp_X7_table μ).1 = nI T ∧ Nb ((sp_X7_table μ).2.1 0) T 0 ∧ Hok (sp_X7_table μ).2 := by
  obtain ⟨⟨h0, h1, h2⟩, hs, ht, hz, hf⟩ := h
  obtain ⟨c1, c2⟩ := chg (v := nI (T + 1)) hO (i := 0) (by decide)
  have e : sp_X7_table μ = (nI T, pM (sp_X0_record μ) 0 0 (nI (T + 1))) := by
    unfold sp_X7_table
    rw [(rec_hk hO).2.1, h0, if_pos (show nI T < 3 by rw [show (3 : Int32) = nI 3 from rfl, nI_ltI (by omega) (by omega)]; exact hT), nI_1, nI_pred]
  rw [e]
  refine ⟨rfl, ?_, c2.ok⟩
  show Nb ((pM (sp_X0_record μ) 0 0 (nI (T + 1))).1 0) T 0
  rw [c1]
  have en : ∀ y, y ≠ 0 → ur (μ.1 0) 0 (nI (T + 1)) y = μ.1 0 y := fun y hy => ur_n hy
  refine ⟨⟨ur_s, by rw [en 1 (by decide)]; exact h1, by rw [en 2 (by decide)]; exact h2⟩, ?_, fun t' htt => tb_eq (ht t' htt) (fun y q _ => en y (by omega)) (by decide), ⟨by rw [en _ (by unfold tN; omega)]; exact hz T (Nat.le_refl _) hT, fun k hk => by omega, fun k hk => by omega⟩, fun t' a b => by rw [en _ (by unfold tN; omega)]; exact hz t' (by omega) b, fun k hk => fs_eq (hf k hk) (fun f _ => en _ (by unfold sF; omega))⟩
  unfold Sts
  rw [en 3 (by decide), en 4 (by decide), en 5 (by decide), en 6 (by decide)]
  exact hs
theorem nd_v (h : Nb (μ.1 0) t n) (ht : t < 2) (hn : n < 4) (hO : Hok μ) (ha : -200000 ≤ a.toInt ∧ a.toInt ≤ 850000) (hb : 1 ≤ b.toInt ∧ b.toInt ≤ 10000000) (hp : ∀ i, n = i + 1 → dI (μ.1 0) t i < a.toInt ∧ rI (μ.1 0) t i < b.toInt) : (sp_X7_node μ (nI t) a b).1 = nI (n + 1) ∧ Nb ((sp_X7_node μ (nI t) a b).2.1 0) t (n + 1) ∧ Hok (sp_X7_node μ (nI t) a b).2 ∧ dI ((sp_X7_node μ (nI t) a b).2.1 0) t n = a.toInt ∧ rI ((sp_X7_node μ (nI t) a b).2.1 0) t n = b.toInt := by
  obtain ⟨⟨h0, h1, h2⟩, hs, htb, hT, hz, hf⟩ := h
  obtain ⟨r1, r2, r3⟩ := rec_hk hO
  have hm : sp_X5_mayGoOn (μ.1 0) t a b = 1 := by
    unfold sp_X5_mayGoOn
    by_cases c : n = 0
    · subst c
      rw [hT.1, if_pos (show nI 0 = 0 from rfl)]
    · obtain ⟨i, rfl⟩ : ∃ i, n = i + 1 := ⟨n - 1, by omega⟩
      obtain ⟨p1, p2⟩ := hp i rfl
      have u1 : (μ.1 0 (tD t i)).toInt = dI (μ.1 0) t i := rfl
      have u2 : (μ.1 0 (tR t i)).toInt = rI (μ.1 0) t i := rfl
      rw [hT.1, if_neg (nI_ne0 (by omega) (by omega)), nI_pred, tmp_k (by omega), rto_k (by omega), if_neg (by rw [Int32.le_iff_toInt_le]; omega), if_neg (by rw [Int32.le_iff_toInt_le]; omega)]
  have hh : sp_X4_hasSensorOf (μ.1 0) (nI t) = 0 := by
    unfold sp_X4_hasSensorOf
    rw [lp_X4_hasSensorOf_2, h1, if_pos (nI_le (Nat.le_refl _) (by decide))]
  have ha2 : sp_X5_append (sp_X0_record μ) 0 t a b = pM (pM (pM (sp_X0_record μ) 0 (tD t n) a) 0 (tR t n) b) 0 (tN t) (nI (n + 1)) := by
    unfold sp_X5_append
    rw [r2, hT.1, if_neg (nI_pos (by omega)), if_neg (by rw [show (12 : Int32) = nI 12 from rfl, nI_leI (by omega) (by omega)]; omega), if_neg (by rw [show (12 : Int32) = nI 12 from rfl, nI_leI (by omega) (by omega)]; omega), nI_clamp (by omega), nI_1]
  have e : sp_X7_node μ (nI t) a b = (nI (n + 1), pM (pM (pM (sp_X0_record μ) 0 (tD t n) a) 0 (tR t n) b) 0 (tN t) (nI (n + 1))) := by
    unfold sp_X7_node
    refine (oc_some (tab_at h0 (by omega) (by omega))).trans ?_
    rw [if_pos (i2t' ha), if_pos (rg32 (L := 1) (H := 10000000) (by decide) (by decide) hb), if_pos hh, if_neg (by rw [hm]; decide), if_pos (by rw [hT.1, show (12 : Int32) = nI 12 from rfl, nI_ltI (by omega) (by omega)]; omega), ha2, row_at]
  rw [e]
  have hr : (pM (pM (pM (sp_X0_record μ) 0 (tD t n) a) 0 (tR t n) b) 0 (tN t) (nI (n + 1))).1 0 = ur (ur (ur (μ.1 0) (tD t n) a) (tR t n) b) (tN t) (nI (n + 1)) := by rw [row_s, row_s, row_s, r2]
  have hk : Hk (pM (pM (pM (sp_X0_record μ) 0 (tD t n) a) 0 (tR t n) b) 0 (tN t) (nI (n + 1))) (μ.1 0) := hk_pM (hk_pM (hk_pM r1 (by unfold tD; omega)) (by unfold tR; omega)) (by unfold tN; omega)
  generalize pM (pM (pM (sp_X0_record μ) 0 (tD t n) a) 0 (tR t n) b) 0 (tN t) (nI (n + 1)) = u at *
  show nI (n + 1) = nI (n + 1) ∧ Nb (u.1 0) t (n + 1) ∧ Hok u ∧ dI (u.1 0) t n = a.toInt ∧ rI (u.1 0) t n = b.toInt
  rw [hr]
  have eo : ∀ y, (y < 10 + 25 * t ∨ 35 + 25 * t ≤ y) → ur (ur (ur (μ.1 0) (tD t n) a) (tR t n) b) (tN t) (nI (n + 1)) y = μ.1 0 y := fun y hy => by rw [ur_n (by unfold tN; omega), ur_n (by unfold tR; omega), ur_n (by unfold tD; omega)]
  have eD : ur (ur (ur (μ.1 0) (tD t n) a) (tR t n) b) (tN t) (nI (n + 1)) (tD t n) = a := by rw [ur_n (by unfold tN tD; omega), ur_n (by unfold tR tD; omega), ur_s]
  have eR : ur (ur (ur (μ.1 0) (tD t n) a) (tR t n) b) (tN t) (nI (n + 1)) (tR t n) = b := by rw [ur_n (by unfold tN tR; omega), ur_s]
  have eD' : ∀ k, k < n → ur (ur (ur (μ.1 0) (tD t n) a) (tR t n) b) (tN t) (nI (n + 1)) (tD t k) = μ.1 0 (tD t k) := fun k hk => by rw [ur_n (by unfold tN tD; omega), ur_n (by unfold tR tD; omega), ur_n (by unfold tD; omega)]
  have eR' : ∀ k, k < n → ur (ur (ur (μ.1 0) (tD t n) a) (tR t n) b) (tN t) (nI (n + 1)) (tR t k) = μ.1 0 (tR t k) := fun k hk => by rw [ur_n (by unfold tN tR; omega), ur_n (by unfold tR; omega), ur_n (by unfold tR tD; omega)]
  have eN : ur (ur (ur (μ.1 0) (tD t n) a) (tR t n) b) (tN t) (nI (n + 1)) (tN t) = nI (n + 1) := ur_s
  generalize ur (ur (ur (μ.1 0) (tD t n) a) (tR t n) b) (tN t) (nI (n + 1)) = g2 at *
  refine ⟨rfl, ⟨⟨by rw [eo 0 (by omega)]; exact h0, by rw [eo 1 (by omega)]; exact h1, by rw [eo 2 (by omega)]; exact h2⟩, ?_, fun t' htt => tb_eq (htb t' htt) (fun y q1 q2 => eo y (by omega)) (by decide), ⟨eN, fun k hk => ?_, fun k hk => ?_⟩, fun t' q1 q2 => by rw [eo _ (by unfold tN; omega)]; exact hz t' q1 q2, fun k hk => fs_eq (hf k hk) (fun f _ => eo _ (by unfold sF; omega))⟩, hk.ok, by unfold dI; rw [eD], by unfold rI; rw [eR]⟩
  · unfold Sts
    rw [eo 3 (by omega), eo 4 (by omega), eo 5 (by omega), eo 6 (by omega)]
    exact hs
  · unfold dI rI
    rw [eD' k (by omega), eR' k (by omega)]
    by_cases c : k + 1 = n
    · rw [c, eD, eR]
      exact hp k c.symm
    · rw [eD' _ (by omega), eR' _ (by omega)]
      exact hT.2.1 k (by omega)
  · unfold dI rI
    by_cases c : k = n
    · subst c
      rw [eD, eR]
      exact ⟨ha.1, ha.2, hb.1, hb.2⟩
    · rw [eD' _ (by omega), eR' _ (by omega)]
      exact hT.2.2 k (by omega)
/-! sensors -/
/-- sensor N is made and not plugged yet -/
def Gm (g : Nat → Int32) (T N B : Nat) : Prop := (T ≤ 2 ∧ N < 4) ∧ (g 0 = nI T ∧ g 1 = nI (N + 1) ∧ g 2 = -1) ∧ Sts g ∧ (∀ t, t < T → Tb g t 4) ∧ (∀ k, k < N → Sn g T B k (nI (plc k))) ∧ Sn g T B N (-1) ∧ ∀ k, N + 1 ≤ k → k < 6 → Fs g k
theorem mn_c (x y : Int32) : mnI x y = x ∨ mnI x y = y := by
  unfold mnI
  by_cases c : y < x
  · rw [if_pos c]; exact Or.inr rfl
  · rw [if_neg c]; exact Or.inl rfl
theorem mx_c (x y : Int32) : mxI x y = x ∨ mxI x y = y := by
  unfold mxI
  by_cases c : x < y
  · rw [if_pos c]; exact Or.inr rfl
  · rw [if_neg c]; exact Or.inl rfl
theorem nr_b (h : Tb g t 4) : -200000 ≤ (sp_X5_nearest g t 0).toInt ∧ (sp_X5_nearest g t 0).toInt ≤ 850000 := by
  have b0 := h.2.2 0 (by decide)
  have b3 := h.2.2 3 (by decide)
  have u1 : (g (tD t 0)).toInt = dI g t 0 := rfl
  have u2 : (g (tD t 3)).toInt = dI g t 3 := rfl
  unfold sp_X5_nearest
  rw [h.1, show nI 4 - 1 = nI 3 by decide, show sp_X5_temperatureOf g t 0 = g (tD t 0) from tmp_k (k := 0) (by decide), tmp_k (by decide)]
  rcases mn_c (mxI 0 (g (tD t 0))) (g (tD t 3)) with q | q
  · rw [q]
    rcases mx_c 0 (g (tD t 0)) with p | p
    · rw [p, show (0 : Int32).toInt = 0 by decide]; omega
    · rw [p]; omega
  · rw [q]; omega
theorem sn_v (h : Gd (μ.1 0) T N B) (h2 : μ.1 0 2 = -1) (ht : t < T) (hN : N < 4) (hO : Hok μ) (hw : 1000 ≤ w.toInt ∧ w.toInt ≤ 2000000) : (sp_X7_sensor μ (nI t) (nI (2 + N % 3)) w).1 = nI N ∧ Gm ((sp_X7_sensor μ (nI t) (nI (2 + N % 3)) w).2.1 0) T N B ∧ Hok (sp_X7_sensor μ (nI t) (nI (2 + N % 3)) w).2 := by
  obtain ⟨⟨hT, hN4⟩, ⟨h0, h1⟩, hs, htb, hn, hf⟩ := id h
  obtain ⟨r1, r2, r3⟩ := rec_hk hO
  have hT4 := htb t ht
  have e1 : ∀ m : Mu, m.1 0 = μ.1 0 → sp_X4_sensorAt ((pM m 0 1 (nI (N + 1))).1 0) (nI N) = some N := fun m hm => sen_at (N := N + 1) (row_at _) (by omega) (by omega)
  have hnr : sp_X5_nearest ((pM (sp_X0_record μ) 0 1 (nI (N + 1))).1 0) t 0 = sp_X5_nearest (μ.1 0) t 0 := by
    rw [row_s, r2]
    unfold sp_X5_nearest sp_X5_temperatureOf
    rw [ur_n (show tN t ≠ 1 by unfold tN; omega), hT4.1, show nI 4 - 1 = nI 3 by decide, if_neg (by decide), if_neg (by decide), if_neg (by decide), if_neg (by decide), if_neg (by decide), if_neg (by decide), if_neg (by decide), if_neg (by decide), ur_n (by unfold tD; omega), ur_n (by unfold tD; omega)]
  have e : sp_X7_sensor μ (nI t) (nI (2 + N % 3)) w = (nI N, sp_X3_begin (pM (sp_X0_record μ) 0 1 (nI (N + 1))) 0 N (nI t) (nI (2 + N % 3)) w (sp_X5_nearest (μ.1 0) t 0)) := by
    unfold sp_X7_sensor
    refine (oc_some (tab_at h0 (by omega) ht)).trans ?_
    rw [if_pos (rg32 (L := 2) (H := 4) (by decide) (by decide) (by rw [nI_toInt (by omega), show (2 : Int32).toInt = 2 by decide, show (4 : Int32).toInt = 4 by decide]; omega)), if_pos (rg32 (L := 1000) (H := 2000000) (by decide) (by decide) hw), if_pos (by rw [hT4.1]; decide), if_pos (by rw [h1, show (6 : Int32) = nI 6 from rfl, nI_ltI (by omega) (by omega)]; omega), r2, h1, nI_1, nI_pred]
    refine (oc_some (e1 _ r2)).trans ?_
    rw [hnr]
    refine Prod.ext ?_ rfl
    show (sp_X3_begin _ 0 N _ _ _ _).1 0 1 - 1 = nI N
    unfold sp_X3_begin sp_X3_watch
    rw [row_k _ (by unfold sF; omega), row_k _ (by unfold sF; omega), row_k _ (by unfold sF; omega), row_k _ (by unfold sF; omega), row_k _ (by unfold sF; omega), row_k _ (by unfold sF; omega), row_k _ (by unfold sF; omega), row_k _ (by unfold sF; omega), row_k _ (by unfold sF; omega), row_at, nI_pred]
  have hb := nr_b hT4
  generalize sp_X5_nearest (μ.1 0) t 0 = z at *
  have hhk : Hk (sp_X3_begin (pM (sp_X0_record μ) 0 1 (nI (N + 1))) 0 N (nI t) (nI (2 + N % 3)) w z) (μ.1 0) := by
    unfold sp_X3_begin sp_X3_watch
    exact hk_pM (hk_pM (hk_pM (hk_pM (hk_pM (hk_pM (hk_pM (hk_pM (hk_pM (hk_pM r1 (by decide)) (by unfold sF; omega)) (by unfold sF; omega)) (by unfold sF; omega)) (by unfold sF; omega)) (by unfold sF; omega)) (by unfold sF; omega)) (by unfold sF; omega)) (by unfold sF; omega)) (by unfold sF; omega)
  have eo : ∀ y, y ≠ 1 → (y < 85 + 28 * N ∨ 85 + 28 * N + 11 ≤ y ∨ y = sF N 5 ∨ y = sF N 6) → (sp_X3_begin (pM (sp_X0_record μ) 0 1 (nI (N + 1))) 0 N (nI t) (nI (2 + N % 3)) w z).1 0 y = μ.1 0 y := by
    intro y hy hy2
    have hy3 : y < 85 + 28 * N ∨ 85 + 28 * N + 11 ≤ y ∨ y = 85 + 28 * N + 5 ∨ y = 85 + 28 * N + 6 := hy2
    unfold sp_X3_begin sp_X3_watch
    rw [row_k _ (by unfold sF; omega), row_k _ (by unfold sF; omega), row_k _ (by unfold sF; omega), row_k _ (by unfold sF; omega), row_k _ (by unfold sF; omega), row_k _ (by unfold sF; omega), row_k _ (by unfold sF; omega), row_k _ (by unfold sF; omega), row_k _ (by unfold sF; omega), row_k _ hy, r2]
  have f1 : (sp_X3_begin (pM (sp_X0_record μ) 0 1 (nI (N + 1))) 0 N (nI t) (nI (2 + N % 3)) w z).1 0 1 = nI (N + 1) := by
    unfold sp_X3_begin sp_X3_watch
    rw [row_k _ (by unfold sF; omega), row_k _ (by unfold sF; omega), row_k _ (by unfold sF; omega), row_k _ (by unfold sF; omega), row_k _ (by unfold sF; omega), row_k _ (by unfold sF; omega), row_k _ (by unfold sF; omega), row_k _ (by unfold sF; omega), row_k _ (by unfold sF; omega), row_at]
  have fs : (sp_X3_begin (pM (sp_X0_record μ) 0 1 (nI (N + 1))) 0 N (nI t) (nI (2 + N % 3)) w z).1 0 (sF N 0) = nI t ∧ (sp_X3_begin (pM (sp_X0_record μ) 0 1 (nI (N + 1))) 0 N (nI t) (nI (2 + N % 3)) w z).1 0 (sF N 1) = nI (2 + N % 3) ∧ (sp_X3_begin (pM (sp_X0_record μ) 0 1 (nI (N + 1))) 0 N (nI t) (nI (2 + N % 3)) w z).1 0 (sF N 2) = w ∧ (sp_X3_begin (pM (sp_X0_record μ) 0 1 (nI (N + 1))) 0 N (nI t) (nI (2 + N % 3)) w z).1 0 (sF N 3) = w ∧ (sp_X3_begin (pM (sp_X0_record μ) 0 1 (nI (N + 1))) 0 N (nI t) (nI (2 + N % 3)) w z).1 0 (sF N 4) = z ∧ (sp_X3_begin (pM (sp_X0_record μ) 0 1 (nI (N + 1))) 0 N (nI t) (nI (2 + N % 3)) w z).1 0 (sF N 7) = -200000 ∧ (sp_X3_begin (pM (sp_X0_record μ) 0 1 (nI (N + 1))) 0 N (nI t) (nI (2 + N % 3)) w z).1 0 (sF N 8) = 850000 ∧ (sp_X3_begin (pM (sp_X0_record μ) 0 1 (nI (N + 1))) 0 N (nI t) (nI (2 + N % 3)) w z).1 0 (sF N 9) = 0 ∧ (sp_X3_begin (pM (sp_X0_record μ) 0 1 (nI (N + 1))) 0 N (nI t) (nI (2 + N % 3)) w z).1 0 (sF N 10) = 0 := by
    unfold sp_X3_begin sp_X3_watch
    refine ⟨?_, ?_, ?_, ?_, ?_, ?_, ?_, ?_, ?_⟩
    · rw [row_k _ (by unfold sF; omega), row_k _ (by unfold sF; omega), row_k _ (by unfold sF; omega), row_k _ (by unfold sF; omega), row_k _ (by unfold sF; omega), row_k _ (by unfold sF; omega), row_k _ (by unfold sF; omega), row_k _ (by unfold sF; omega), row_at]
    · rw [row_k _ (by unfold sF; omega), row_k _ (by unfold sF; omega), row_k _ (by unfold sF; omega), row_k _ (by unfold sF; omega), row_k _ (by unfold sF; omega), row_k _ (by unfold sF; omega), row_k _ (by unfold sF; omega), row_at]
    · rw [row_k _ (by unfold sF; omega), row_k _ (by unfold sF; omega), row_k _ (by unfold sF; omega), row_k _ (by unfold sF; omega), row_k _ (by unfold sF; omega), row_k _ (by unfold sF; omega), row_at]
    · rw [row_k _ (by unfold sF; omega), row_k _ (by unfold sF; omega), row_k _ (by unfold sF; omega), row_k _ (by unfold sF; omega), row_k _ (by unfold sF; omega), row_at]
    · rw [row_k _ (by unfold sF; omega), row_k _ (by unfold sF; omega), row_k _ (by unfold sF; omega), row_k _ (by unfold sF; omega), row_at]
    · rw [row_k _ (by unfold sF; omega), row_k _ (by unfold sF; omega), row_k _ (by unfold sF; omega), row_at]
    · rw [row_k _ (by unfold sF; omega), row_k _ (by unfold sF; omega), row_at]
    · rw [row_k _ (by unfold sF; omega), row_at]
    · exact row_at _
  rw [e]
  generalize sp_X3_begin (pM (sp_X0_record μ) 0 1 (nI (N + 1))) 0 N (nI t) (nI (2 + N % 3)) w z = u at *
  obtain ⟨q0, q1, q2, q3, q4, q7, q8, q9, q10⟩ := fs
  obtain ⟨z6, z11, z16, z18⟩ := hf N (Nat.le_refl _) (by omega)
  refine ⟨rfl, ⟨⟨hT, hN⟩, ⟨by rw [eo 0 (by omega) (by omega)]; exact h0, f1, by rw [eo 2 (by omega) (by omega)]; exact h2⟩, ?_, fun t' htt => tb_eq (htb t' htt) (fun y a1 a2 => eo y (by omega) (by omega)) (by decide), fun k hk => sn_eq (hn k hk) (Nat.le_refl _) (fun f hff => eo _ (by unfold sF; omega) (by unfold sF; omega)), ⟨⟨t, ht, q0⟩, q1, by rw [q2]; exact hw, by rw [q3]; exact hw, by rw [q4]; exact hb, by rw [eo _ (by unfold sF; omega) (Or.inr (Or.inr (Or.inr rfl)))]; exact z6, ⟨q7, q8, q9, q10⟩, ⟨0, Nat.zero_le _, by rw [eo _ (by unfold sF; omega) (by unfold sF; omega), z11]; rfl⟩, by rw [eo _ (by unfold sF; omega) (by unfold sF; omega), z16]; decide, by rw [eo _ (by unfold sF; omega) (by unfold sF; omega)]; exact Or.inl z18⟩, fun k a1 a2 => fs_eq (hf k (by omega) a2) (fun f hff => eo _ (by unfold sF; omega) (by unfold sF; omega))⟩, hhk.ok⟩
  show Sts (u.1 0)
  unfold Sts
  rw [eo 3 (by omega) (by omega), eo 4 (by omega) (by omega), eo 5 (by omega) (by omega), eo 6 (by omega) (by omega)]
  exact hs
theorem oc_iff (h : Gd g T N B) {p : Nat} (hp : p < 12) : (sp_X4_sensorIn g (nI p) = -1 ∧ ∀ n, n < N → plc n ≠ p) ∨ (¬ sp_X4_sensorIn g (nI p) = -1 ∧ ∃ n, n < N ∧ plc n = p) := by
  have h4 := h.1.2
  by_cases c : ∃ n, n < N ∧ plc n = p
  · obtain ⟨n, hn, rfl⟩ := c
    exact Or.inr ⟨by rw [gd_in h hn]; exact pl_ne (by omega), n, hn, rfl⟩
  · refine Or.inl ⟨sI_none h.2.1.2 (by omega) (fun n hn q => ?_), fun n hn q => c ⟨n, hn, q⟩⟩
    rw [(h.2.2.2.2.1 n hn).2.2.2.2.2.1] at q
    exact c ⟨n, hn, nI_ij (by unfold plc; omega) (by omega) q⟩
theorem pg_v (h : Gm (μ.1 0) T N B) (hO : Hok μ) : (sp_X7_plug μ (nI N) (nI (N % 3)) (nI (N / 3))).1 = nI (1 + N / 3) ∧ Gd ((sp_X7_plug μ (nI N) (nI (N % 3)) (nI (N / 3))).2.1 0) T (N + 1) B ∧ (sp_X7_plug μ (nI N) (nI (N % 3)) (nI (N / 3))).2.1 0 2 = -1 ∧ Hok (sp_X7_plug μ (nI N) (nI (N % 3)) (nI (N / 3))).2 := by
  obtain ⟨⟨hT, hN⟩, ⟨h0, h1, h2⟩, hs, htb, hn, hm, hf⟩ := id h
  obtain ⟨c1, c2⟩ := chg (v := nI (plc N)) hO (i := sF N 6) (by unfold sF; omega)
  have hpl : (nI (N % 3) * 3 + nI (N / 3) : Int32) = nI (plc N) := by rw [show (3 : Int32) = nI 3 from rfl, pk_mul, nI_add]
  have hfree : sp_X4_sensorIn (μ.1 0) (nI (plc N)) = -1 := sI_none (N := N + 1) h1 (by omega) (fun n hn2 q => by
    by_cases c : n = N
    · subst c
      rw [hm.2.2.2.2.2.1] at q
      exact pl_ne (by unfold plc; omega) q.symm
    · rw [(hn n (by omega)).2.2.2.2.2.1] at q
      have := plc_ij (by omega) (by omega) q
      omega)
  have e : sp_X7_plug μ (nI N) (nI (N % 3)) (nI (N / 3)) = (sp_X4_takenSlots ((pM (sp_X0_record μ) 0 (sF N 6) (nI (plc N))).1 0) (nI (N % 3)), pM (sp_X0_record μ) 0 (sF N 6) (nI (plc N))) := by
    unfold sp_X7_plug
    refine (oc_some (sen_at (N := N + 1) h1 (by omega) (by omega))).trans ?_
    rw [hpl, if_pos ⟨rg32 (L := 0) (H := 3) (by decide) (by decide) (by rw [nI_toInt (by omega), show (0 : Int32).toInt = 0 by decide, show (3 : Int32).toInt = 3 by decide]; omega), rg32 (L := 0) (H := 2) (by decide) (by decide) (by rw [nI_toInt (by omega), show (0 : Int32).toInt = 0 by decide, show (2 : Int32).toInt = 2 by decide]; omega)⟩, if_neg (fun q => q hm.2.2.2.2.2.1), if_pos hfree, if_pos (Or.inr (by rw [hm.2.1, show (2 : Int32) = nI 2 from rfl, nI_add]))]
  rw [e]
  have en : ∀ y, y ≠ sF N 6 → ur (μ.1 0) (sF N 6) (nI (plc N)) y = μ.1 0 y := fun y hy => ur_n hy
  have hG : Gd (ur (μ.1 0) (sF N 6) (nI (plc N))) T (N + 1) B := by
    have ek : ∀ n, n ≠ N → ∀ f, f < 28 → ur (μ.1 0) (sF N 6) (nI (plc N)) (sF n f) = (μ.1 0) (sF n f) := fun n hne f hf => en _ (by unfold sF; omega)
    have eN : ∀ f, f ≠ 6 → ur (μ.1 0) (sF N 6) (nI (plc N)) (sF N f) = (μ.1 0) (sF N f) := fun f hne => en _ (by unfold sF; omega)
    refine ⟨⟨hT, hN⟩, ⟨by rw [en 0 (by unfold sF; omega)]; exact h0, by rw [en 1 (by unfold sF; omega)]; exact h1⟩, ?_, fun t' htt => tb_eq (htb t' htt) (fun y a1 a2 => en y (by unfold sF; omega)) (by decide), fun n hn2 => ?_, fun n a1 a2 => fs_eq (hf n a1 a2) (ek n (by omega))⟩
    · unfold Sts
      rw [en 3 (by unfold sF; omega), en 4 (by unfold sF; omega), en 5 (by unfold sF; omega), en 6 (by unfold sF; omega)]
      exact hs
    · by_cases c : n = N
      · subst c
        unfold Sn
        rw [eN 0 (by decide), eN 1 (by decide), eN 2 (by decide), eN 3 (by decide), eN 4 (by decide), ur_s, eN 7 (by decide), eN 8 (by decide), eN 9 (by decide), eN 10 (by decide), eN 11 (by decide), eN 16 (by decide), eN 18 (by decide)]
        obtain ⟨s1, s2, s3, s4, s5, s6, s7, s8, s9, s10⟩ := hm
        exact ⟨s1, s2, s3, s4, s5, rfl, s7, s8, s9, s10⟩
      · exact sn_eq (hn n (by omega)) (Nat.le_refl _) (ek n c)
  refine ⟨?_, by show Gd ((pM _ 0 _ _).1 0) T (N + 1) B; rw [c1]; exact hG, by show (pM _ 0 _ _).1 0 2 = -1; rw [c1, en 2 (by unfold sF; omega)]; exact h2, c2.ok⟩
  show sp_X4_takenSlots ((pM _ 0 _ _).1 0) (nI (N % 3)) = nI (1 + N / 3)
  rw [c1]
  generalize ur (μ.1 0) (sF N 6) (nI (plc N)) = g2 at *
  have tk : ∀ c p0 p1 p2 : Nat, (nI c * 3 + 0 : Int32) = nI p0 → (nI c * 3 + 1 : Int32) = nI p1 → (nI c * 3 + 2 : Int32) = nI p2 → sp_X4_takenSlots g2 (nI c) = if sp_X4_sensorIn g2 (nI p0) = -1 then (if sp_X4_sensorIn g2 (nI p1) = -1 then (if sp_X4_sensorIn g2 (nI p2) = -1 then 0 else 1) else (if sp_X4_sensorIn g2 (nI p2) = -1 then 1 else 2)) else (if sp_X4_sensorIn g2 (nI p1) = -1 then (if sp_X4_sensorIn g2 (nI p2) = -1 then 1 else 2) else (if sp_X4_sensorIn g2 (nI p2) = -1 then 2 else 3)) := by
    intro c p0 p1 p2 e0 e1 e2
    unfold sp_X4_takenSlots
    rw [e0, e1, e2]
  have occ : ∀ p, p < 12 → (∃ n, n < N + 1 ∧ plc n = p) → ¬ sp_X4_sensorIn g2 (nI p) = -1 := fun p hp hx => by
    rcases oc_iff hG hp with q | q
    · obtain ⟨n, a1, a2⟩ := hx
      exact absurd a2 (q.2 n a1)
    · exact q.1
  have fre : ∀ p, p < 12 → (∀ n, n < N + 1 → plc n ≠ p) → sp_X4_sensorIn g2 (nI p) = -1 := fun p hp hx => by
    rcases oc_iff hG hp with q | q
    · exact q.1
    · obtain ⟨n, a1, a2⟩ := q.2
      exact absurd a2 (hx n a1)
  rcases (show N = 0 ∨ N = 1 ∨ N = 2 ∨ N = 3 by omega) with rfl | rfl | rfl | rfl
  · rw [tk (0 % 3) 0 1 2 (by decide) (by decide) (by decide), if_neg (occ 0 (by decide) ⟨0, by decide, by decide⟩), if_pos (fre 1 (by decide) (by decide)), if_pos (fre 2 (by decide) (by decide))]
    rfl
  · rw [tk (1 % 3) 3 4 5 (by decide) (by decide) (by decide), if_neg (occ 3 (by decide) ⟨1, by decide, by decide⟩), if_pos (fre 4 (by decide) (by decide)), if_pos (fre 5 (by decide) (by decide))]
    rfl
  · rw [tk (2 % 3) 6 7 8 (by decide) (by decide) (by decide), if_neg (occ 6 (by decide) ⟨2, by decide, by decide⟩), if_pos (fre 7 (by decide) (by decide)), if_pos (fre 8 (by decide) (by decide))]
    rfl
  · rw [tk (3 % 3) 0 1 2 (by decide) (by decide) (by decide), if_neg (occ 0 (by decide) ⟨0, by decide, by decide⟩), if_neg (occ 1 (by decide) ⟨3, by decide, by decide⟩), if_pos (fre 2 (by decide) (by decide))]
    rfl
end CH
