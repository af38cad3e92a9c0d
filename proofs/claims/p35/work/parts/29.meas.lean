/-! ===== what the measuring calls answer ===== -/
section MS
variable {g g' : Nat → Int32} {μ : Mu} {T N B t k : Nat} {cu : Int32}
theorem cu_in (h : 100 ≤ cu.toInt ∧ cu.toInt ≤ 5000) : (100 : Int64) ≤ cu.toInt64 ∧ cu.toInt64 ≤ (5000 : Int64) := (i2g (L := 100) (H := 5000) (by decide) (by decide)).mpr ⟨by rw [Int32.le_iff_toInt_le, show (100 : Int32).toInt = 100 by decide]; omega, by rw [Int32.le_iff_toInt_le, show (5000 : Int32).toInt = 5000 by decide]; omega⟩
theorem ct_0 (h1 : μ.1 0 1 = nI N) (hN : N ≤ 6) (hk : k < N) (hc : 100 ≤ cu.toInt ∧ cu.toInt ≤ 5000) : (sp_X7_counts μ (nI k) cu 0 0).1 = (one (μ.1 0) k cu.toInt64).toInt32 ∧ Same μ (sp_X7_counts μ (nI k) cu 0 0).2 := by
  have e : sp_X7_counts μ (nI k) cu 0 0 = ((one (μ.1 0) k cu.toInt64).toInt32, tkJ μ 2 0 k cu) := by
    unfold sp_X7_counts
    refine (oc_some (sen_at h1 hN hk)).trans ?_
    rw [if_pos (cu_in hc), if_pos (by decide), if_pos (by decide), if_neg (by decide), if_pos rfl, if_pos rfl, if_neg (by decide), if_pos rfl]
  rw [e]
  exact ⟨rfl, same_tk _ _ _ _⟩
theorem ct_1 (h1 : μ.1 0 1 = nI N) (hN : N ≤ 6) (hk : k < N) (hc : 100 ≤ cu.toInt ∧ cu.toInt ≤ 5000) : (sp_X7_counts μ (nI k) cu 0 1).1 = (oth (μ.1 0) k cu.toInt64).toInt32 ∧ Same μ (sp_X7_counts μ (nI k) cu 0 1).2 := by
  have e : sp_X7_counts μ (nI k) cu 0 1 = ((oth (μ.1 0) k cu.toInt64).toInt32, tkJ μ 2 0 k cu) := by
    unfold sp_X7_counts
    refine (oc_some (sen_at h1 hN hk)).trans ?_
    rw [if_pos (cu_in hc), if_pos (by decide), if_pos (by decide), if_neg (by decide), if_pos rfl, if_pos rfl, if_neg (by decide), if_neg (by decide)]
  rw [e]
  exact ⟨rfl, same_tk _ _ _ _⟩
theorem ct_2 (h1 : μ.1 0 1 = nI N) (hN : N ≤ 6) (hk : k < N) (hc : 100 ≤ cu.toInt ∧ cu.toInt ≤ 5000) : (sp_X7_counts μ (nI k) cu 0 2).1 = ((one (μ.1 0) k cu.toInt64 - oth (μ.1 0) k cu.toInt64) / 2).toInt32 ∧ Same μ (sp_X7_counts μ (nI k) cu 0 2).2 := by
  have e : sp_X7_counts μ (nI k) cu 0 2 = (((one (μ.1 0) k cu.toInt64 - oth (μ.1 0) k cu.toInt64) / 2).toInt32, tkJ μ 2 0 k cu) := by
    unfold sp_X7_counts
    refine (oc_some (sen_at h1 hN hk)).trans ?_
    rw [if_pos (cu_in hc), if_pos (by decide), if_pos (by decide), if_neg (by decide), if_pos rfl, if_pos rfl, if_pos rfl]
  rw [e]
  exact ⟨rfl, same_tk _ _ _ _⟩
theorem oh_0 (h1 : μ.1 0 1 = nI N) (hN : N ≤ 6) (hk : k < N) : (sp_X7_ohms μ (nI k) 0).1 = (htq (μ.1 0) k (cur1 (μ.1 0)).toInt64).toInt32 ∧ Same μ (sp_X7_ohms μ (nI k) 0).2 := by
  have e : sp_X7_ohms μ (nI k) 0 = ((htq (μ.1 0) k (cur1 (μ.1 0)).toInt64).toInt32, msr μ 0 k) := by
    unfold sp_X7_ohms
    refine (oc_some (sen_at h1 hN hk)).trans ?_
    rw [if_pos (by decide), if_pos rfl]
  rw [e]
  exact ⟨rfl, same_msr _ _⟩
theorem oh_2 (h1 : μ.1 0 1 = nI N) (hN : N ≤ 6) (hk : k < N) : (sp_X7_ohms μ (nI k) 2).1 = (lpo (μ.1 0) k (cur1 (μ.1 0)).toInt64).toInt32 ∧ Same μ (sp_X7_ohms μ (nI k) 2).2 := by
  have e : sp_X7_ohms μ (nI k) 2 = ((lpo (μ.1 0) k (cur1 (μ.1 0)).toInt64).toInt32, msr μ 0 k) := by
    unfold sp_X7_ohms
    refine (oc_some (sen_at h1 hN hk)).trans ?_
    rw [if_pos (by decide), if_neg (by decide), if_neg (by decide), if_pos rfl]
  rw [e]
  exact ⟨rfl, same_msr _ _⟩
theorem oh_3 (h1 : μ.1 0 1 = nI N) (hN : N ≤ 6) (hk : k < N) : (sp_X7_ohms μ (nI k) 3).1 = (cps (μ.1 0) k (cur1 (μ.1 0)).toInt64).toInt32 ∧ Same μ (sp_X7_ohms μ (nI k) 3).2 := by
  have e : sp_X7_ohms μ (nI k) 3 = ((cps (μ.1 0) k (cur1 (μ.1 0)).toInt64).toInt32, msr μ 0 k) := by
    unfold sp_X7_ohms
    refine (oc_some (sen_at h1 hN hk)).trans ?_
    rw [if_pos (by decide), if_neg (by decide), if_neg (by decide), if_neg (by decide), if_pos rfl]
  rw [e]
  exact ⟨rfl, same_msr _ _⟩
theorem oh_5 (h1 : μ.1 0 1 = nI N) (hN : N ≤ 6) (hk : k < N) : (sp_X7_ohms μ (nI k) 5).1 = (wop (μ.1 0) k).toInt32 ∧ Same μ (sp_X7_ohms μ (nI k) 5).2 := by
  have e : sp_X7_ohms μ (nI k) 5 = ((wop (μ.1 0) k).toInt32, msr μ 0 k) := by
    unfold sp_X7_ohms
    refine (oc_some (sen_at h1 hN hk)).trans ?_
    rw [if_pos (by decide), if_neg (by decide), if_neg (by decide), if_neg (by decide), if_neg (by decide), if_neg (by decide)]
  rw [e]
  exact ⟨rfl, same_msr _ _⟩
theorem dg_v (h1 : μ.1 0 1 = nI N) (hN : N ≤ 6) (hk : k < N) : (sp_X7_diagnosis μ (nI k)).1 = dgn (μ.1 0) k ∧ Same μ (sp_X7_diagnosis μ (nI k)).2 := by
  have e : sp_X7_diagnosis μ (nI k) = (dgn (μ.1 0) k, msr μ 0 k) := oc_some (sen_at h1 hN hk)
  rw [e]
  exact ⟨rfl, same_msr _ _⟩
/-! facts of what is measured -/
theorem c1_e : cur1 g = g 4 := set_j (j := 1) (by decide)
theorem c2_e : cur2 g = g 5 := set_j (j := 2) (by decide)
theorem ht_sh {c : Int64} (h0 : g 0 = nI T) (hT : T ≤ 3) (ht : t < T) (he : g (sF k 0) = nI t) (hs : g (sF k 18) = 1) : htq g k c = 0 := by
  unfold htq
  rw [he]
  refine (oc_some (tab_at h0 hT ht)).trans ?_
  unfold v_X1_heatedOhms
  rw [show sp_X3_strainOf g k 2 = g (sF k 18) from stra_j (j := 2) (by decide), if_pos hs]
theorem cps_l {c : Int64} (h : g (sF k 1) ≠ 3) : cps g k c = lpo g k c := if_neg h
theorem wop_s (h : g 4 = g 5) : wop g k = cps g k (cur1 g).toInt64 := by
  unfold wop
  rw [c1_e, c2_e, ← h]
  unfold v_X2_extrapolated
  rw [if_pos (Int64.sub_self _)]
theorem uni_all : ∀ b : Nat, b < 25 → 8 ≤ b → ((1 : Int64) <<< ((nI b).toInt64 &&& 63)).toInt = 2 ^ b ∧ ((4 : Int32) <<< (nI b &&& 31)).toInt = 4 * 2 ^ b := by decide +kernel
theorem pw_all : ∀ b : Nat, b < 25 → (2 : Int) ^ b ≤ 16777216 ∧ 1 ≤ (2 : Int) ^ b := by decide +kernel
theorem b_of (h : 8 ≤ (g 6).toInt ∧ (g 6).toInt ≤ 24) : ∃ b : Nat, 8 ≤ b ∧ b < 25 ∧ g 6 = nI b := by
  obtain ⟨j, hj, e⟩ := nI_of (x := g 6) (fun q => by rw [Int32.lt_iff_toInt_lt, Int32.toInt_zero] at q; omega)
  rw [e, nI_toInt hj] at h
  exact ⟨j, by omega, by omega, e⟩
/-- the unit, and the most that is counted -/
theorem uni_v (h : 8 ≤ (g 6).toInt ∧ (g 6).toInt ≤ 24) : 1 ≤ (uni g).toInt ∧ (uni g).toInt ≤ 16777216 ∧ ((4 : Int32) <<< (g 6 &&& 31)).toInt = 4 * (uni g).toInt := by
  obtain ⟨b, h8, h25, e⟩ := b_of h
  obtain ⟨u1, u2⟩ := uni_all b h25 h8
  obtain ⟨p1, p2⟩ := pw_all b h25
  have eu : uni g = (1 : Int64) <<< ((nI b).toInt64 &&& 63) := by
    unfold uni
    rw [show sp_X4_setting g 3 = g 6 from set_j (j := 3) (by decide), e]
  rw [eu, e, u1, u2]
  exact ⟨p2, p1, rfl⟩
theorem mx_b {x y z : Int64} (h : x.toInt ≤ z.toInt) (h2 : y.toInt ≤ z.toInt) : x.toInt ≤ (mxL x y).toInt ∧ (mxL x y).toInt ≤ z.toInt := by
  unfold mxL
  by_cases c : y < x
  · rw [if_pos c]; exact ⟨Int.le_refl _, h⟩
  · rw [if_neg c]; rw [Int64.lt_iff_toInt_lt] at c; exact ⟨by omega, h2⟩
theorem mn_b {x y : Int64} : (mnL x y).toInt ≤ x.toInt := by
  unfold mnL
  by_cases c : y < x
  · rw [if_pos c]; rw [Int64.lt_iff_toInt_lt] at c; omega
  · rw [if_neg c]; exact Int.le_refl _
theorem co_b {a0 a1 u v : Int64} (h1 : 1 ≤ u.toInt) (h2 : u.toInt ≤ 16777216) : -(4 * u.toInt) ≤ (v_X1_countsOf a0 a1 u v).toInt ∧ (v_X1_countsOf a0 a1 u v).toInt ≤ 4 * u.toInt := by
  have e4 : (4 * u).toInt = 4 * u.toInt := by rw [Int64.toInt_mul, show (4 : Int64).toInt = 4 by decide, L_of _ (by omega)]
  have en : (-(4 * u)).toInt = -(4 * u.toInt) := by rw [Int64.toInt_neg, e4, L_of _ (by omega)]
  unfold v_X1_countsOf
  by_cases c : (0 : Int64) < a0 * a1
  · rw [if_pos c]
    have m := mn_b (x := 4 * u) (y := v * u / (a0 * a1))
    have q := mx_b (x := -(4 * u)) (y := mnL (4 * u) (v * u / (a0 * a1))) (z := 4 * u) (by omega) m
    rw [e4, en] at q
    exact q
  · rw [if_neg c, show (0 : Int64).toInt = 0 by decide]
    omega
/-- counts stay within four times the unit -/
theorem one_b {c : Int64} (h : 8 ≤ (g 6).toInt ∧ (g 6).toInt ≤ 24) : -(4 * (uni g).toInt) ≤ (one g k c).toInt ∧ (one g k c).toInt ≤ 4 * (uni g).toInt := by
  obtain ⟨u1, u2, -⟩ := uni_v h
  exact co_b u1 u2
theorem oth_b {c : Int64} (h : 8 ≤ (g 6).toInt ∧ (g 6).toInt ≤ 24) : -(4 * (uni g).toInt) ≤ (oth g k c).toInt ∧ (oth g k c).toInt ≤ 4 * (uni g).toInt := by
  obtain ⟨u1, u2, -⟩ := uni_v h
  exact co_b u1 u2
/-- both ways they are half of what is between -/
theorem two_e {c : Int64} (h : 8 ≤ (g 6).toInt ∧ (g 6).toInt ≤ 24) : ((one g k c - oth g k c) / 2).toInt32 = ((one g k c).toInt32 - (oth g k c).toInt32) / 2 ∧ -(4 * (uni g).toInt) ≤ ((one g k c - oth g k c) / 2).toInt32.toInt ∧ ((one g k c - oth g k c) / 2).toInt32.toInt ≤ 4 * (uni g).toInt := by
  obtain ⟨u1, u2, -⟩ := uni_v h
  have a := one_b (k := k) (c := c) h
  have b := oth_b (k := k) (c := c) h
  generalize one g k c = x at *
  generalize oth g k c = y at *
  generalize (uni g).toInt = u at *
  have e1 : (x - y).toInt = x.toInt - y.toInt := by rw [Int64.toInt_sub, L_of _ (by omega)]
  have hd : (x.toInt - y.toInt).tdiv 2 ≤ 4 * u ∧ -(4 * u) ≤ (x.toInt - y.toInt).tdiv 2 := by
    rcases Int.le_total 0 (x.toInt - y.toInt) with q | q
    · rw [Int.tdiv_eq_ediv_of_nonneg q]; omega
    · have e : (x.toInt - y.toInt).tdiv 2 = -((-(x.toInt - y.toInt)).tdiv 2) := by rw [Int.neg_tdiv, Int.neg_neg]
      rw [e, Int.tdiv_eq_ediv_of_nonneg (by omega)]
      omega
  have e2 : ((x - y) / 2).toInt = (x.toInt - y.toInt).tdiv 2 := by rw [Int64.toInt_div, e1, show (2 : Int64).toInt = 2 by decide, L_of _ (by omega)]
  have e3 : ((x - y) / 2).toInt32.toInt = (x.toInt - y.toInt).tdiv 2 := by rw [Int64.toInt_toInt32, e2, I_of _ (by omega)]
  have e4 : x.toInt32.toInt = x.toInt := by rw [Int64.toInt_toInt32, I_of _ (by omega)]
  have e5 : y.toInt32.toInt = y.toInt := by rw [Int64.toInt_toInt32, I_of _ (by omega)]
  have e6 : (x.toInt32 - y.toInt32).toInt = x.toInt - y.toInt := by rw [Int32.toInt_sub, e4, e5, I_of _ (by omega)]
  refine ⟨Int32.toInt_inj.mp ?_, by rw [e3]; exact hd.2, by rw [e3]; exact hd.1⟩
  rw [e3, Int32.toInt_div, e6, show (2 : Int32).toInt = 2 by decide, I_of _ (by omega)]
/-- the diagnosis of a plugged sensor -/
theorem dg_c (hp : ¬ g (sF k 6) = -1) : (dgn g k = 0 ∧ rdg g k ≠ -2000000004 ∧ g (sF k 5) = 0) ∨ dgn g k = 2 ∨ ((dgn g k = 3 ∨ dgn g k = 4 ∨ dgn g k = 5 ∨ dgn g k = 6 ∨ dgn g k = 7) ∧ g (sF k 5) = 0) := by
  unfold dgn v_X2_diagnosisOf
  rw [if_pos hp]
  by_cases c1 : g (sF k 5) = 0
  · rw [if_pos c1]
    split
    · split
      · exact Or.inr (Or.inr ⟨Or.inr (Or.inl rfl), c1⟩)
      · split
        · exact Or.inr (Or.inr ⟨Or.inr (Or.inl rfl), c1⟩)
        · split
          · split
            · split
              · split
                · exact Or.inr (Or.inr ⟨Or.inr (Or.inr (Or.inr (Or.inr rfl))), c1⟩)
                · rename_i q; exact Or.inl ⟨rfl, q, c1⟩
              · exact Or.inr (Or.inr ⟨Or.inr (Or.inr (Or.inr (Or.inl rfl))), c1⟩)
            · exact Or.inr (Or.inr ⟨Or.inr (Or.inr (Or.inl rfl)), c1⟩)
          · split
            · split
              · exact Or.inr (Or.inr ⟨Or.inr (Or.inr (Or.inr (Or.inr rfl))), c1⟩)
              · rename_i q; exact Or.inl ⟨rfl, q, c1⟩
            · exact Or.inr (Or.inr ⟨Or.inr (Or.inr (Or.inr (Or.inl rfl))), c1⟩)
    · exact Or.inr (Or.inr ⟨Or.inl rfl, c1⟩)
  · rw [if_neg c1]
    exact Or.inr (Or.inl rfl)
/-- a reading is the inverse of something -/
theorem rd_iv (h0 : g 0 = nI T) (hT : T ≤ 3) (ht : t < T) (hb : Tb g t 4) (he : g (sF k 0) = nI t) (hr : rdg g k ≠ -2000000004) : ∃ v : Int, Iv (dI g t) (rI g t) v (rdg g k).toInt := by
  have e : rdg g k = v_X2_readingOf g t (wop g k) (g (sF k 3)).toInt64 := by
    unfold rdg
    rw [he]
    exact oc_some (tab_at h0 hT ht)
  rw [e] at hr ⊢
  unfold v_X2_readingOf at hr ⊢
  by_cases c : (0 : Int64) < (g (sF k 3)).toInt64
  · rw [if_pos c] at hr ⊢
    rcases tf_val hb (v := wop g k * 1000000 / (g (sF k 3)).toInt64) with q | q
    · exact absurd q.1 hr
    · exact ⟨_, q.2.2⟩
  · rw [if_neg c] at hr
    exact absurd rfl hr
/-! with four wires no lead changes anything -/
theorem ra_lp (e : ∀ y, y < 85 → g' y = g y) (ht : t < 3) {w : Int32} : ∀ f k, k + f ≤ 13 → lp_X5_ratioAt_2 g' t w f k = lp_X5_ratioAt_2 g t w f k := by
  intro f
  induction f with
  | zero => intro k _; rfl
  | succ f ih =>
    intro k hk
    rw [lp_X5_ratioAt_2, lp_X5_ratioAt_2, e (tN t) (by unfold tN; omega)]
    by_cases c1 : g (tN t) ≤ nI k
    · rw [if_pos c1, if_pos c1]
    · rw [if_neg c1, if_neg c1]
      by_cases c2 : (12 : Int32) ≤ nI k
      · rw [if_pos c2, if_pos c2]
      · rw [if_neg c2, if_neg c2]
        rw [show (12 : Int32) = nI 12 from rfl, nI_leI (by omega) (by omega)] at c2
        rw [e (tD t k) (by unfold tD; omega), e (tD t (k - 1)) (by unfold tD; omega), e (tR t k) (by unfold tR; omega), e (tR t (k - 1)) (by unfold tR; omega), ih (k + 1) (by omega)]
theorem ra_c (e : ∀ y, y < 85 → g' y = g y) (ht : t < 3) {w : Int32} : sp_X5_ratioAt g' t w = sp_X5_ratioAt g t w := ra_lp e ht 12 1 (by decide)
theorem tm_c (e : ∀ y, y < 85 → g' y = g y) (ht : t < 3) {w : Int32} : sp_X5_temperatureOf g' t w = sp_X5_temperatureOf g t w := by
  unfold sp_X5_temperatureOf
  by_cases c : w < 0
  · rw [if_pos c, if_pos c]
  · rw [if_neg c, if_neg c]
    by_cases c2 : (12 : Int32) ≤ w
    · rw [if_pos c2, if_pos c2]
    · rw [if_neg c2, if_neg c2]
      obtain ⟨j, hj, rfl⟩ := nI_of c
      rw [show (12 : Int32) = nI 12 from rfl, nI_leI (by omega) hj] at c2
      rw [nI_clamp hj]
      exact e _ (by unfold tD; omega)
theorem wop_lead {w : Int32} {j : Nat} {c : Int64} (h0 : g 0 = nI T) (hT : T ≤ 3) (ht : t < T) (he : g (sF k 0) = nI t) (h4 : g (sF k 1) = nI 4) (hj : j < 4) : one (ur g (sF k (12 + j)) w) k c = one g k c ∧ oth (ur g (sF k (12 + j)) w) k c = oth g k c ∧ wop (ur g (sF k (12 + j)) w) k = wop g k := by
  have e : ∀ y, y < 85 → ur g (sF k (12 + j)) w y = g y := fun y hy => ur_n (by unfold sF; omega)
  have ef : ∀ f, f < 12 ∨ 16 ≤ f → ur g (sF k (12 + j)) w (sF k f) = g (sF k f) := fun f hf => ur_n (by unfold sF; omega)
  generalize hg : ur g (sF k (12 + j)) w = g2 at *
  have hs : ∀ i, i < 7 → sp_X4_setting g2 (nI i) = sp_X4_setting g (nI i) := fun i hi => by rw [set_j hi, set_j hi, e _ (by omega)]
  have hst : ∀ i, i < 3 → sp_X3_strainOf g2 k (nI i) = sp_X3_strainOf g k (nI i) := fun i hi => by rw [stra_j hi, stra_j hi, ef _ (by omega)]
  have hh : ∀ c, htq g2 k c = htq g k c := by
    intro c
    unfold htq
    rw [ef 0 (by omega), he]
    refine (oc_some (tab_at (T := T) (by rw [e 0 (by omega)]; exact h0) hT ht)).trans (Eq.trans ?_ (oc_some (tab_at h0 hT ht)).symm)
    unfold v_X1_heatedOhms
    rw [show (2 : Int32) = nI 2 from rfl, show (0 : Int32) = nI 0 from rfl, hst 2 (by decide), hst 0 (by decide), ef 2 (by omega), ef 4 (by omega), e (tN t) (by unfold tN; omega), tm_c e (by omega), ra_c e (by omega) (w := g (sF k 4)), ra_c e (by omega)]
  have hu : uni g2 = uni g := by unfold uni; rw [show (3 : Int32) = nI 3 from rfl, hs 3 (by decide)]
  have hr : rfr g2 = rfr g := by unfold rfr; rw [show (0 : Int32) = nI 0 from rfl, hs 0 (by decide)]
  have hy : stry g2 k = stry g k := by unfold stry; rw [show (1 : Int32) = nI 1 from rfl, hst 1 (by decide)]
  have hl : led g2 k = led g k := by
    unfold led
    rw [ef 1 (by omega), h4, if_pos (show nI 4 = 4 from rfl), if_pos (show nI 4 = 4 from rfl)]
  have hv : ∀ c, vol g2 k c = vol g k c := fun c => by unfold vol; rw [hh, hl]
  have h1 : ∀ c, one g2 k c = one g k c := fun c => by unfold one; rw [hr, hu, hv, hy]
  have h2 : ∀ c, oth g2 k c = oth g k c := fun c => by unfold oth; rw [hr, hu, hv, hy]
  have hp : ∀ c, lpo g2 k c = lpo g k c := fun c => by unfold lpo; rw [hu, hr, h1, h2]
  have hc : ∀ c, cps g2 k c = cps g k c := fun c => by
    rw [cps_l (by rw [ef 1 (by omega), h4]; decide), cps_l (by rw [h4]; decide), hp]
  refine ⟨h1 c, h2 c, ?_⟩
  unfold wop
  rw [c1_e, c2_e, c1_e, c2_e, e 4 (by omega), e 5 (by omega), hc, hc]
end MS
