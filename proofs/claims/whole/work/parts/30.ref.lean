/-! ===== the reference: what holds of its numbers ===== -/
def ni (N : Nat) (x : Int32) : Prop := x = nI x.toNatClampNeg ∧ x.toNatClampNeg < N
/-- of the row s: how many tables, sensors, nodes; of each sensor its table, how many readings it keeps -/
def RI (g : Nat → Int32) : Prop := ni 4 (g 0) ∧ ni 7 (g 1) ∧ (∀ t, t < 3 → ni 13 (g (10 + 25 * t))) ∧ ∀ n, n < 6 → ni 3 (g (85 + 29 * n + 0)) ∧ ni 10 (g (85 + 29 * n + 19)) ∧ ni 5 (g (85 + 29 * n + 1))
theorem na_lit {a L : Int32} (k : Nat) (hL : L = nI k) (hk : k < 2 ^ 31 - 1) (c : (0 : Int32) ≤ a ∧ a ≤ L) : a = nI a.toNatClampNeg ∧ a.toNatClampNeg < k + 1 := by
  obtain ⟨c1, c2⟩ := c
  obtain ⟨j, hj, rfl⟩ := nI_of (x := a) (fun q => by rw [Int32.le_iff_toInt_le] at c1; rw [Int32.lt_iff_toInt_lt] at q; omega)
  subst hL
  rw [nI_leI hj (by omega)] at c2
  rw [nI_clamp hj]
  exact ⟨rfl, by omega⟩
theorem na_cmp {a : Int32} {k : Nat} (hk : k < 2 ^ 31) (c1 : ¬ a < 0) (c2 : ¬ nI k ≤ a) : a = nI a.toNatClampNeg ∧ a.toNatClampNeg < k := by
  obtain ⟨j, hj, rfl⟩ := nI_of (x := a) c1
  rw [nI_leI hk hj] at c2
  rw [nI_clamp hj]
  exact ⟨rfl, by omega⟩
theorem ni_lt {N k : Nat} {x : Int32} (h : ni N x) (hN : N < 2 ^ 31) (hk : k < 2 ^ 31) (c : ¬ x ≤ nI k) : k < x.toNatClampNeg := by
  rw [h.1, nI_leI (by have := h.2; omega) hk] at c
  omega
theorem ni_of {N : Nat} {a x : Int32} (h : ni N x) (hN : N < 2 ^ 31) (c : (0 : Int32) ≤ a ∧ a ≤ x - 1) : a = nI a.toNatClampNeg ∧ a.toNatClampNeg < x.toNatClampNeg := by
  obtain ⟨c1, c2⟩ := c
  obtain ⟨j, hj, rfl⟩ := nI_of (x := a) (fun q => by rw [Int32.le_iff_toInt_le] at c1; rw [Int32.lt_iff_toInt_lt] at q; omega)
  rw [nI_clamp hj]
  refine ⟨rfl, ?_⟩
  have hx := h.1
  have hxN := h.2
  rcases Nat.eq_zero_or_pos x.toNatClampNeg with q | q
  · rw [hx, q] at c2
    have : ¬ nI j ≤ nI 0 - 1 := by
      rw [Int32.le_iff_toInt_le, nI_toInt hj, show (nI 0 - 1).toInt = -1 by decide]
      omega
    exact absurd c2 this
  · rw [hx, show nI x.toNatClampNeg - 1 = nI (x.toNatClampNeg - 1) from pk_sub (b := 1) q, nI_leI hj (by omega)] at c2
    omega
def sp_X8_in   (v : Int32) (a : Int32) (b : Int32) : Int32 :=
  if (v : Int32) < a then
    0
  else
    if (b : Int32) < v then
      0
    else
      1
set_option maxHeartbeats 4000000 in
set_option maxRecDepth 100000 in
theorem k_X8_in (l : Launch) (E : En) (μ : Mu)  (v : Int32) (a : Int32) (b : Int32)  : MtI l yX8_in cX8_in 3 .boolean ({ frames := 0, cells := 0, slots := 0, locals := 0 }) [.int (v), .int (a), .int (b)] E μ ((sp_X8_in  v a b), μ) := by
  refine mt_of (by decide +kernel) (Nat.le_of_ble_eq_true rfl) ?_
  intro p e s m args below meth c ls hf hr hlocks hl hw
  have hx := hf.1
  have hb := hf.2.1
  have hl : lv_has ls 3 [(0, .int (v)), (1, .int (a)), (2, .int (b))] := hl
  refine lv_iload_n hx hb dX8_in_0 rfl (lv_at hl 0 rfl) ?_
  refine lv_iload_n hx hb dX8_in_1 rfl (lv_at hl 1 rfl) ?_
  refine lv_icmp_lt (tgt := 14) hx hb dX8_in_2 (by decide) (fun c1 => ?_) (fun c1 => ?_)
  · refine lv_iconst (v := 0) hx hb dX8_in_14 (by decide) ?_
    exact e_i hf hr hlocks hw rfl (congrArg (fun z => (z, μ)) ((if_pos c1).trans rfl)) dX8_in_15
  · refine lv_iload_n hx hb dX8_in_5 rfl (lv_at hl 0 rfl) ?_
    refine lv_iload_n hx hb dX8_in_6 rfl (lv_at hl 2 rfl) ?_
    refine lv_icmp_gt (tgt := 14) hx hb dX8_in_7 (by decide) (fun c2 => ?_) (fun c2 => ?_)
    · refine lv_iconst (v := 0) hx hb dX8_in_14 (by decide) ?_
      exact e_i hf hr hlocks hw rfl (congrArg (fun z => (z, μ)) ((if_neg c1).trans ((if_pos c2).trans rfl))) dX8_in_15
    · refine lv_iconst (v := 1) hx hb dX8_in_10 (by decide) ?_
      refine lv_goto (tgt := 15) hx hb dX8_in_11 (by decide) ?_
      exact e_i hf hr hlocks hw rfl (congrArg (fun z => (z, μ)) ((if_neg c1).trans ((if_neg c2).trans rfl))) dX8_in_15
theorem n_X8_in (μ : Mu)  (v : Int32) (a : Int32) (b : Int32)  : (sp_X8_in  v a b) = bz (a ≤ v ∧ v ≤ b) := by
  unfold sp_X8_in bz
  repeat' (first | rfl | split)
  all_goals (first | (exfalso; simp_all; done) | (exfalso; simp only [Int32.le_iff_toInt_le, Int32.lt_iff_toInt_lt, Int64.le_iff_toInt_le, Int64.lt_iff_toInt_lt] at *; omega))
theorem kn_X8_in (l : Launch) (E : En) (μ : Mu)  (v : Int32) (a : Int32) (b : Int32)  : MtI l yX8_in cX8_in 3 .boolean ({ frames := 0, cells := 0, slots := 0, locals := 0 }) [.int (v), .int (a), .int (b)] E μ (bz (a ≤ v ∧ v ≤ b), μ) := by
  rw [← n_X8_in μ v a b ]
  exact k_X8_in l E μ  v a b 
def sp_X8_isDegree   (w : Int32) : Int32 :=
  bz (((-200000) : Int32) ≤ w ∧ w ≤ (850000 : Int32))
set_option maxHeartbeats 4000000 in
set_option maxRecDepth 100000 in
theorem k_X8_isDegree (l : Launch) (E : En) (μ : Mu)  (w : Int32)  : MtI l yX8_isDegree cX8_isDegree 1 .boolean ({ frames := 1, cells := 0, slots := 0, locals := 22 }) [.int (w)] E μ ((sp_X8_isDegree  w), μ) := by
  refine mt_of (by decide +kernel) (Nat.le_of_ble_eq_true rfl) ?_
  intro p e s m args below meth c ls hf hr hlocks hl hw
  have hx := hf.1
  have hb := hf.2.1
  have hl : lv_has ls 1 [(0, .int (w))] := hl
  refine lv_iload_n hx hb dX8_isDegree_0 rfl (lv_at hl 0 rfl) ?_
  refine lv_ldc hx hb hf.2.2.2.1 (hf.2.2.2.2 _ q213) dX8_isDegree_1 ?_
  refine lv_ldc hx hb hf.2.2.2.1 (hf.2.2.2.2 _ q214) dX8_isDegree_3 ?_
  refine c_iR hw (run_S (As := [.int (w), .int (-200000), .int 850000]) (rest := []) (np := 3) hf hw (kn_X8_in l E _  w ((-200000) : Int32) (850000 : Int32)  ) ⟨gl_S q207 q208 q5 q209, by decide +kernel⟩ ⟨rfl, rfl, Nat.le_of_ble_eq_true rfl, Nat.le_of_ble_eq_true rfl⟩ rfl hl.1 rfl (Nat.le_of_ble_eq_true rfl) dX8_isDegree_5 ⟨Nat.zero_le _, Nat.zero_le _⟩) (fun H locs hw => ?_)
  exact e_i hf hr hlocks hw (nar_bz _) (congrArg (fun z => (z, μ)) rfl) dX8_isDegree_8
theorem n_X8_isDegree (μ : Mu)  (w : Int32)  : (sp_X8_isDegree  w) = bz ((-200000) ≤ w ∧ w ≤ 850000) := by
  rfl
theorem kn_X8_isDegree (l : Launch) (E : En) (μ : Mu)  (w : Int32)  : MtI l yX8_isDegree cX8_isDegree 1 .boolean ({ frames := 1, cells := 0, slots := 0, locals := 22 }) [.int (w)] E μ (bz ((-200000) ≤ w ∧ w ≤ 850000), μ) := by
  rw [← n_X8_isDegree μ w ]
  exact k_X8_isDegree l E μ  w 
def sp_X8_isTable (g : Nat → Int32)  (a : Int32) : Int32 :=
  bz ((0 : Int32) ≤ a ∧ a ≤ ((g 0) - 1))
set_option maxHeartbeats 4000000 in
set_option maxRecDepth 100000 in
theorem k_X8_isTable (l : Launch) (E : En) (μ : Mu)  (a : Int32)  : MtI l yX8_isTable cX8_isTable 2 .boolean ({ frames := 1, cells := 0, slots := 0, locals := 22 }) [.ref (E.1 (232)), .int (a)] E μ ((sp_X8_isTable (μ.1 8) a), μ) := by
  refine mt_of (by decide +kernel) (Nat.le_of_ble_eq_true rfl) ?_
  intro p e s m args below meth c ls hf hr hlocks hl hw
  have hx := hf.1
  have hb := hf.2.1
  have hl : lv_has ls 2 [(0, .ref (E.1 (232))), (1, .int (a))] := hl
  refine lv_iload_n hx hb dX8_isTable_0 rfl (lv_at hl 1 rfl) ?_
  refine lv_iconst (v := 0) hx hb dX8_isTable_1 (by decide) ?_
  refine lv_aload_n hx hb dX8_isTable_2 rfl (lv_at hl 0 rfl) ?_
  refine g_f hw hf (by decide) (c_R E _) rfl inlX8 0 (by decide) rfl q90 rfl dX8_isTable_3 ?_
  refine lv_iconst (v := 0) hx hb dX8_isTable_6 (by decide) ?_
  refine g_a hw hf (by decide) (c_Rs E _) (vp_lit 0 259 (by decide) (by decide)) (tr_at (y := 0) (by decide) (by decide)) dX8_isTable_7 ?_
  refine lv_iconst (v := 1) hx hb dX8_isTable_8 (by decide) ?_
  refine lv_isub hx hb dX8_isTable_9 ?_
  refine c_iR hw (run_S (As := [.int (a), .int 0, .int ((μ.1 8 0) - 1)]) (rest := []) (np := 3) hf hw (kn_X8_in l E _  a (0 : Int32) ((μ.1 8 0) - 1)  ) ⟨gl_S q207 q208 q5 q209, by decide +kernel⟩ ⟨rfl, rfl, Nat.le_of_ble_eq_true rfl, Nat.le_of_ble_eq_true rfl⟩ rfl hl.1 rfl (Nat.le_of_ble_eq_true rfl) dX8_isTable_10 ⟨Nat.zero_le _, Nat.zero_le _⟩) (fun H locs hw => ?_)
  exact e_i hf hr hlocks hw (nar_bz _) (congrArg (fun z => (z, μ)) rfl) dX8_isTable_13
theorem n_X8_isTable (μ : Mu)  (a : Int32)  : (sp_X8_isTable (μ.1 8) a) = bz (0 ≤ a ∧ a ≤ (μ.1 8 0) - 1) := by
  rfl
theorem kn_X8_isTable (l : Launch) (E : En) (μ : Mu)  (a : Int32)  : MtI l yX8_isTable cX8_isTable 2 .boolean ({ frames := 1, cells := 0, slots := 0, locals := 22 }) [.ref (E.1 (232)), .int (a)] E μ (bz (0 ≤ a ∧ a ≤ (μ.1 8 0) - 1), μ) := by
  rw [← n_X8_isTable μ a ]
  exact k_X8_isTable l E μ  a 
def sp_X8_isSensor (g : Nat → Int32)  (a : Int32) : Int32 :=
  bz ((0 : Int32) ≤ a ∧ a ≤ ((g 1) - 1))
set_option maxHeartbeats 4000000 in
set_option maxRecDepth 100000 in
theorem k_X8_isSensor (l : Launch) (E : En) (μ : Mu)  (a : Int32)  : MtI l yX8_isSensor cX8_isSensor 2 .boolean ({ frames := 1, cells := 0, slots := 0, locals := 22 }) [.ref (E.1 (232)), .int (a)] E μ ((sp_X8_isSensor (μ.1 8) a), μ) := by
  refine mt_of (by decide +kernel) (Nat.le_of_ble_eq_true rfl) ?_
  intro p e s m args below meth c ls hf hr hlocks hl hw
  have hx := hf.1
  have hb := hf.2.1
  have hl : lv_has ls 2 [(0, .ref (E.1 (232))), (1, .int (a))] := hl
  refine lv_iload_n hx hb dX8_isSensor_0 rfl (lv_at hl 1 rfl) ?_
  refine lv_iconst (v := 0) hx hb dX8_isSensor_1 (by decide) ?_
  refine lv_aload_n hx hb dX8_isSensor_2 rfl (lv_at hl 0 rfl) ?_
  refine g_f hw hf (by decide) (c_R E _) rfl inlX8 0 (by decide) rfl q90 rfl dX8_isSensor_3 ?_
  refine lv_iconst (v := 1) hx hb dX8_isSensor_6 (by decide) ?_
  refine g_a hw hf (by decide) (c_Rs E _) (vp_lit 1 259 (by decide) (by decide)) (tr_at (y := 1) (by decide) (by decide)) dX8_isSensor_7 ?_
  refine lv_iconst (v := 1) hx hb dX8_isSensor_8 (by decide) ?_
  refine lv_isub hx hb dX8_isSensor_9 ?_
  refine c_iR hw (run_S (As := [.int (a), .int 0, .int ((μ.1 8 1) - 1)]) (rest := []) (np := 3) hf hw (kn_X8_in l E _  a (0 : Int32) ((μ.1 8 1) - 1)  ) ⟨gl_S q207 q208 q5 q209, by decide +kernel⟩ ⟨rfl, rfl, Nat.le_of_ble_eq_true rfl, Nat.le_of_ble_eq_true rfl⟩ rfl hl.1 rfl (Nat.le_of_ble_eq_true rfl) dX8_isSensor_10 ⟨Nat.zero_le _, Nat.zero_le _⟩) (fun H locs hw => ?_)
  exact e_i hf hr hlocks hw (nar_bz _) (congrArg (fun z => (z, μ)) rfl) dX8_isSensor_13
theorem n_X8_isSensor (μ : Mu)  (a : Int32)  : (sp_X8_isSensor (μ.1 8) a) = bz (0 ≤ a ∧ a ≤ (μ.1 8 1) - 1) := by
  rfl
theorem kn_X8_isSensor (l : Launch) (E : En) (μ : Mu)  (a : Int32)  : MtI l yX8_isSensor cX8_isSensor 2 .boolean ({ frames := 1, cells := 0, slots := 0, locals := 22 }) [.ref (E.1 (232)), .int (a)] E μ (bz (0 ≤ a ∧ a ≤ (μ.1 8 1) - 1), μ) := by
  rw [← n_X8_isSensor μ a ]
  exact k_X8_isSensor l E μ  a 
def sp_X8_of (g : Nat → Int32)  (n : Nat) (w : Nat) : Int32 :=
  g (85 + 29 * n + w)
set_option maxHeartbeats 4000000 in
set_option maxRecDepth 100000 in
theorem k_X8_of (l : Launch) (E : En) (μ : Mu)  (n : Nat) (w : Nat) (hn : n < 6) (hw2 : w < 29) : MtI l yX8_of cX8_of 3 .int ({ frames := 0, cells := 0, slots := 0, locals := 0 }) [.ref (E.1 (232)), .int (nI n), .int (nI w)] E μ ((sp_X8_of (μ.1 8) n w), μ) := by
  refine mt_of (by decide +kernel) (Nat.le_of_ble_eq_true rfl) ?_
  intro p e s m args below meth c ls hf hr hlocks hl hw
  have hx := hf.1
  have hb := hf.2.1
  have hl : lv_has ls 3 [(0, .ref (E.1 (232))), (1, .int (nI n)), (2, .int (nI w))] := hl
  refine lv_aload_n hx hb dX8_of_0 rfl (lv_at hl 0 rfl) ?_
  refine g_f hw hf (by decide) (c_R E _) rfl inlX8 0 (by decide) rfl q90 rfl dX8_of_1 ?_
  refine lv_bipush (v := 85) hx hb dX8_of_4 (by decide) ?_
  refine lv_bipush (v := 29) hx hb dX8_of_6 (by decide) ?_
  refine lv_iload_n hx hb dX8_of_8 rfl (lv_at hl 1 rfl) ?_
  refine lv_imul hx hb dX8_of_9 ?_
  refine fold_i (show (29 : Int32) * nI n = nI (29 * n) from pk_mul (29) (n)) ?_
  refine lv_iadd hx hb dX8_of_10 ?_
  refine fold_i (show (85 : Int32) + nI (29 * n) = nI (85 + 29 * n) from nI_add (85) (29 * n)) ?_
  refine lv_iload_n hx hb dX8_of_11 rfl (lv_at hl 2 rfl) ?_
  refine lv_iadd hx hb dX8_of_12 ?_
  refine fold_i (show nI (85 + 29 * n) + nI w = nI (85 + 29 * n + w) from nI_add (85 + 29 * n) (w)) ?_
  refine g_a hw hf (by decide) (c_Rs E _) (vp_in_nI (show 85 + 29 * n + w < 259 from (by omega)) (by decide)) (tr_at (y := 85 + 29 * n + w) (by omega) (nI_clamp (Nat.lt_trans (show 85 + 29 * n + w < 259 from (by omega)) (by decide)))) dX8_of_13 ?_
  exact e_i hf hr hlocks hw rfl (congrArg (fun z => (z, μ)) rfl) dX8_of_14
theorem n_X8_of (μ : Mu)  (n : Nat) (w : Nat) (hn : n < 6) (hw2 : w < 29) : (sp_X8_of (μ.1 8) n w) = (μ.1 8 (85 + 29 * n + w)) := by
  rfl
theorem kn_X8_of (l : Launch) (E : En) (μ : Mu)  (n : Nat) (w : Nat) (hn : n < 6) (hw2 : w < 29) : MtI l yX8_of cX8_of 3 .int ({ frames := 0, cells := 0, slots := 0, locals := 0 }) [.ref (E.1 (232)), .int (nI n), .int (nI w)] E μ ((μ.1 8 (85 + 29 * n + w)), μ) := by
  rw [← n_X8_of μ n w hn hw2]
  exact k_X8_of l E μ  n w hn hw2
def sp_X8_put (μ : Mu)  (n : Nat) (w : Nat) (v : Int32) : Mu :=
  pM μ 8 (85 + 29 * n + w) v
set_option maxHeartbeats 4000000 in
set_option maxRecDepth 100000 in
theorem k_X8_put (l : Launch) (E : En) (μ : Mu)  (n : Nat) (w : Nat) (v : Int32) (hn : n < 6) (hw2 : w < 29) : MtV l yX8_put cX8_put 4 ({ frames := 0, cells := 0, slots := 0, locals := 0 }) [.ref (E.1 (232)), .int (nI n), .int (nI w), .int (v)] E μ (sp_X8_put μ n w v) := by
  refine mt_of (by decide +kernel) (Nat.le_of_ble_eq_true rfl) ?_
  intro p e s m args below meth c ls hf hr hlocks hl hw
  have hx := hf.1
  have hb := hf.2.1
  have hl : lv_has ls 4 [(0, .ref (E.1 (232))), (1, .int (nI n)), (2, .int (nI w)), (3, .int (v))] := hl
  refine lv_aload_n hx hb dX8_put_0 rfl (lv_at hl 0 rfl) ?_
  refine g_f hw hf (by decide) (c_R E _) rfl inlX8 0 (by decide) rfl q90 rfl dX8_put_1 ?_
  refine lv_bipush (v := 85) hx hb dX8_put_4 (by decide) ?_
  refine lv_bipush (v := 29) hx hb dX8_put_6 (by decide) ?_
  refine lv_iload_n hx hb dX8_put_8 rfl (lv_at hl 1 rfl) ?_
  refine lv_imul hx hb dX8_put_9 ?_
  refine fold_i (show (29 : Int32) * nI n = nI (29 * n) from pk_mul (29) (n)) ?_
  refine lv_iadd hx hb dX8_put_10 ?_
  refine fold_i (show (85 : Int32) + nI (29 * n) = nI (85 + 29 * n) from nI_add (85) (29 * n)) ?_
  refine lv_iload_n hx hb dX8_put_11 rfl (lv_at hl 2 rfl) ?_
  refine lv_iadd hx hb dX8_put_12 ?_
  refine fold_i (show nI (85 + 29 * n) + nI w = nI (85 + 29 * n + w) from nI_add (85 + 29 * n) (w)) ?_
  refine lv_iload_n hx hb dX8_put_13 rfl (lv_at hl 3 rfl) ?_
  refine p_a hw hf (by decide) (c_Rs E _) (vp_in_nI (show 85 + 29 * n + w < 259 from (by omega)) (by decide)) (by rw [show (nI (85 + 29 * n + w)).toNatClampNeg = 85 + 29 * n + w from (nI_clamp (Nat.lt_trans (show 85 + 29 * n + w < 259 from (by omega)) (by decide)))]; exact (s_Rs E _ (by omega) _)) dX8_put_14 (fun H locs hw => ?_)
  exact e_v hf hr hlocks hw rfl dX8_put_15
theorem n_X8_put (μ : Mu)  (n : Nat) (w : Nat) (v : Int32) (hn : n < 6) (hw2 : w < 29) : (sp_X8_put μ n w v) = pM μ 8 (85 + 29 * n + w) v := by
  rfl
theorem kn_X8_put (l : Launch) (E : En) (μ : Mu)  (n : Nat) (w : Nat) (v : Int32) (hn : n < 6) (hw2 : w < 29) : MtV l yX8_put cX8_put 4 ({ frames := 0, cells := 0, slots := 0, locals := 0 }) [.ref (E.1 (232)), .int (nI n), .int (nI w), .int (v)] E μ (pM μ 8 (85 + 29 * n + w) v) := by
  rw [← n_X8_put μ n w v hn hw2]
  exact k_X8_put l E μ  n w v hn hw2
def sp_X8_nodes (g : Nat → Int32)  (t : Nat) : Int32 :=
  g (10 + 25 * t)
set_option maxHeartbeats 4000000 in
set_option maxRecDepth 100000 in
theorem k_X8_nodes (l : Launch) (E : En) (μ : Mu)  (t : Nat) (ht : t < 3) : MtI l yX8_nodes cX8_nodes 2 .int ({ frames := 0, cells := 0, slots := 0, locals := 0 }) [.ref (E.1 (232)), .int (nI t)] E μ ((sp_X8_nodes (μ.1 8) t), μ) := by
  refine mt_of (by decide +kernel) (Nat.le_of_ble_eq_true rfl) ?_
  intro p e s m args below meth c ls hf hr hlocks hl hw
  have hx := hf.1
  have hb := hf.2.1
  have hl : lv_has ls 2 [(0, .ref (E.1 (232))), (1, .int (nI t))] := hl
  refine lv_aload_n hx hb dX8_nodes_0 rfl (lv_at hl 0 rfl) ?_
  refine g_f hw hf (by decide) (c_R E _) rfl inlX8 0 (by decide) rfl q90 rfl dX8_nodes_1 ?_
  refine lv_bipush (v := 10) hx hb dX8_nodes_4 (by decide) ?_
  refine lv_bipush (v := 25) hx hb dX8_nodes_6 (by decide) ?_
  refine lv_iload_n hx hb dX8_nodes_8 rfl (lv_at hl 1 rfl) ?_
  refine lv_imul hx hb dX8_nodes_9 ?_
  refine fold_i (show (25 : Int32) * nI t = nI (25 * t) from pk_mul (25) (t)) ?_
  refine lv_iadd hx hb dX8_nodes_10 ?_
  refine fold_i (show (10 : Int32) + nI (25 * t) = nI (10 + 25 * t) from nI_add (10) (25 * t)) ?_
  refine g_a hw hf (by decide) (c_Rs E _) (vp_in_nI (show 10 + 25 * t < 259 from (by omega)) (by decide)) (tr_at (y := 10 + 25 * t) (by omega) (nI_clamp (Nat.lt_trans (show 10 + 25 * t < 259 from (by omega)) (by decide)))) dX8_nodes_11 ?_
  exact e_i hf hr hlocks hw rfl (congrArg (fun z => (z, μ)) rfl) dX8_nodes_12
theorem n_X8_nodes (μ : Mu)  (t : Nat) (ht : t < 3) : (sp_X8_nodes (μ.1 8) t) = (μ.1 8 (10 + 25 * t)) := by
  rfl
theorem kn_X8_nodes (l : Launch) (E : En) (μ : Mu)  (t : Nat) (ht : t < 3) : MtI l yX8_nodes cX8_nodes 2 .int ({ frames := 0, cells := 0, slots := 0, locals := 0 }) [.ref (E.1 (232)), .int (nI t)] E μ ((μ.1 8 (10 + 25 * t)), μ) := by
  rw [← n_X8_nodes μ t ht]
  exact k_X8_nodes l E μ  t ht
def sp_X8_degree (g : Nat → Int32)  (t : Nat) (k : Nat) : Int32 :=
  g (10 + 25 * t + 1 + k)
set_option maxHeartbeats 4000000 in
set_option maxRecDepth 100000 in
theorem k_X8_degree (l : Launch) (E : En) (μ : Mu)  (t : Nat) (k : Nat) (ht : t < 3) (hk : k < 12) : MtI l yX8_degree cX8_degree 3 .int ({ frames := 0, cells := 0, slots := 0, locals := 0 }) [.ref (E.1 (232)), .int (nI t), .int (nI k)] E μ ((sp_X8_degree (μ.1 8) t k), μ) := by
  refine mt_of (by decide +kernel) (Nat.le_of_ble_eq_true rfl) ?_
  intro p e s m args below meth c ls hf hr hlocks hl hw
  have hx := hf.1
  have hb := hf.2.1
  have hl : lv_has ls 3 [(0, .ref (E.1 (232))), (1, .int (nI t)), (2, .int (nI k))] := hl
  refine lv_aload_n hx hb dX8_degree_0 rfl (lv_at hl 0 rfl) ?_
  refine g_f hw hf (by decide) (c_R E _) rfl inlX8 0 (by decide) rfl q90 rfl dX8_degree_1 ?_
  refine lv_bipush (v := 10) hx hb dX8_degree_4 (by decide) ?_
  refine lv_bipush (v := 25) hx hb dX8_degree_6 (by decide) ?_
  refine lv_iload_n hx hb dX8_degree_8 rfl (lv_at hl 1 rfl) ?_
  refine lv_imul hx hb dX8_degree_9 ?_
  refine fold_i (show (25 : Int32) * nI t = nI (25 * t) from pk_mul (25) (t)) ?_
  refine lv_iadd hx hb dX8_degree_10 ?_
  refine fold_i (show (10 : Int32) + nI (25 * t) = nI (10 + 25 * t) from nI_add (10) (25 * t)) ?_
  refine lv_iconst (v := 1) hx hb dX8_degree_11 (by decide) ?_
  refine lv_iadd hx hb dX8_degree_12 ?_
  refine fold_i (show nI (10 + 25 * t) + (1 : Int32) = nI (10 + 25 * t + 1) from nI_add (10 + 25 * t) (1)) ?_
  refine lv_iload_n hx hb dX8_degree_13 rfl (lv_at hl 2 rfl) ?_
  refine lv_iadd hx hb dX8_degree_14 ?_
  refine fold_i (show nI (10 + 25 * t + 1) + nI k = nI (10 + 25 * t + 1 + k) from nI_add (10 + 25 * t + 1) (k)) ?_
  refine g_a hw hf (by decide) (c_Rs E _) (vp_in_nI (show 10 + 25 * t + 1 + k < 259 from (by omega)) (by decide)) (tr_at (y := 10 + 25 * t + 1 + k) (by omega) (nI_clamp (Nat.lt_trans (show 10 + 25 * t + 1 + k < 259 from (by omega)) (by decide)))) dX8_degree_15 ?_
  exact e_i hf hr hlocks hw rfl (congrArg (fun z => (z, μ)) rfl) dX8_degree_16
theorem n_X8_degree (μ : Mu)  (t : Nat) (k : Nat) (ht : t < 3) (hk : k < 12) : (sp_X8_degree (μ.1 8) t k) = (μ.1 8 (11 + 25 * t + k)) := by
  unfold sp_X8_degree
  rw [show 10 + 25 * t + 1 + k = 11 + 25 * t + k by omega]
theorem kn_X8_degree (l : Launch) (E : En) (μ : Mu)  (t : Nat) (k : Nat) (ht : t < 3) (hk : k < 12) : MtI l yX8_degree cX8_degree 3 .int ({ frames := 0, cells := 0, slots := 0, locals := 0 }) [.ref (E.1 (232)), .int (nI t), .int (nI k)] E μ ((μ.1 8 (11 + 25 * t + k)), μ) := by
  rw [← n_X8_degree μ t k ht hk]
  exact k_X8_degree l E μ  t k ht hk
def sp_X8_ratioOf (g : Nat → Int32)  (t : Nat) (k : Nat) : Int32 :=
  g (10 + 25 * t + 13 + k)
set_option maxHeartbeats 4000000 in
set_option maxRecDepth 100000 in
theorem k_X8_ratioOf (l : Launch) (E : En) (μ : Mu)  (t : Nat) (k : Nat) (ht : t < 3) (hk : k < 12) : MtI l yX8_ratioOf cX8_ratioOf 3 .int ({ frames := 0, cells := 0, slots := 0, locals := 0 }) [.ref (E.1 (232)), .int (nI t), .int (nI k)] E μ ((sp_X8_ratioOf (μ.1 8) t k), μ) := by
  refine mt_of (by decide +kernel) (Nat.le_of_ble_eq_true rfl) ?_
  intro p e s m args below meth c ls hf hr hlocks hl hw
  have hx := hf.1
  have hb := hf.2.1
  have hl : lv_has ls 3 [(0, .ref (E.1 (232))), (1, .int (nI t)), (2, .int (nI k))] := hl
  refine lv_aload_n hx hb dX8_ratioOf_0 rfl (lv_at hl 0 rfl) ?_
  refine g_f hw hf (by decide) (c_R E _) rfl inlX8 0 (by decide) rfl q90 rfl dX8_ratioOf_1 ?_
  refine lv_bipush (v := 10) hx hb dX8_ratioOf_4 (by decide) ?_
  refine lv_bipush (v := 25) hx hb dX8_ratioOf_6 (by decide) ?_
  refine lv_iload_n hx hb dX8_ratioOf_8 rfl (lv_at hl 1 rfl) ?_
  refine lv_imul hx hb dX8_ratioOf_9 ?_
  refine fold_i (show (25 : Int32) * nI t = nI (25 * t) from pk_mul (25) (t)) ?_
  refine lv_iadd hx hb dX8_ratioOf_10 ?_
  refine fold_i (show (10 : Int32) + nI (25 * t) = nI (10 + 25 * t) from nI_add (10) (25 * t)) ?_
  refine lv_bipush (v := 13) hx hb dX8_ratioOf_11 (by decide) ?_
  refine lv_iadd hx hb dX8_ratioOf_13 ?_
  refine fold_i (show nI (10 + 25 * t) + (13 : Int32) = nI (10 + 25 * t + 13) from nI_add (10 + 25 * t) (13)) ?_
  refine lv_iload_n hx hb dX8_ratioOf_14 rfl (lv_at hl 2 rfl) ?_
  refine lv_iadd hx hb dX8_ratioOf_15 ?_
  refine fold_i (show nI (10 + 25 * t + 13) + nI k = nI (10 + 25 * t + 13 + k) from nI_add (10 + 25 * t + 13) (k)) ?_
  refine g_a hw hf (by decide) (c_Rs E _) (vp_in_nI (show 10 + 25 * t + 13 + k < 259 from (by omega)) (by decide)) (tr_at (y := 10 + 25 * t + 13 + k) (by omega) (nI_clamp (Nat.lt_trans (show 10 + 25 * t + 13 + k < 259 from (by omega)) (by decide)))) dX8_ratioOf_16 ?_
  exact e_i hf hr hlocks hw rfl (congrArg (fun z => (z, μ)) rfl) dX8_ratioOf_17
theorem n_X8_ratioOf (μ : Mu)  (t : Nat) (k : Nat) (ht : t < 3) (hk : k < 12) : (sp_X8_ratioOf (μ.1 8) t k) = (μ.1 8 (23 + 25 * t + k)) := by
  unfold sp_X8_ratioOf
  rw [show 10 + 25 * t + 13 + k = 23 + 25 * t + k by omega]
theorem kn_X8_ratioOf (l : Launch) (E : En) (μ : Mu)  (t : Nat) (k : Nat) (ht : t < 3) (hk : k < 12) : MtI l yX8_ratioOf cX8_ratioOf 3 .int ({ frames := 0, cells := 0, slots := 0, locals := 0 }) [.ref (E.1 (232)), .int (nI t), .int (nI k)] E μ ((μ.1 8 (23 + 25 * t + k)), μ) := by
  rw [← n_X8_ratioOf μ t k ht hk]
  exact k_X8_ratioOf l E μ  t k ht hk
def sp_X8_first (g : Nat → Int32)  (t : Nat) : Int32 :=
  (g (11 + 25 * t + 0))
set_option maxHeartbeats 4000000 in
set_option maxRecDepth 100000 in
theorem k_X8_first (l : Launch) (E : En) (μ : Mu)  (t : Nat) (ht : t < 3) : MtI l yX8_first cX8_first 2 .int ({ frames := 1, cells := 0, slots := 0, locals := 22 }) [.ref (E.1 (232)), .int (nI t)] E μ ((sp_X8_first (μ.1 8) t), μ) := by
  refine mt_of (by decide +kernel) (Nat.le_of_ble_eq_true rfl) ?_
  intro p e s m args below meth c ls hf hr hlocks hl hw
  have hx := hf.1
  have hb := hf.2.1
  have hl : lv_has ls 2 [(0, .ref (E.1 (232))), (1, .int (nI t))] := hl
  refine lv_aload_n hx hb dX8_first_0 rfl (lv_at hl 0 rfl) ?_
  refine lv_iload_n hx hb dX8_first_1 rfl (lv_at hl 1 rfl) ?_
  refine lv_iconst (v := 0) hx hb dX8_first_2 (by decide) ?_
  refine c_iR hw (run_V (As := [.int (nI t), .int 0]) (rest := []) (np := 2) hf hw (kn_X8_degree l E _  t 0  (show t < 3 from ht) (show 0 < 12 from (by decide))) ⟨gl_V q219 q220 q221 q5 q222, by decide +kernel⟩ ⟨rfl, rfl, Nat.le_of_ble_eq_true rfl, Nat.le_of_ble_eq_true rfl⟩ (by decide) (c_R E _) rfl rfl hl.1 rfl (Nat.le_of_ble_eq_true rfl) dX8_first_3 ⟨Nat.zero_le _, Nat.zero_le _⟩) (fun H locs hw => ?_)
  exact e_i hf hr hlocks hw rfl (congrArg (fun z => (z, μ)) rfl) dX8_first_6
theorem n_X8_first (μ : Mu)  (t : Nat) (ht : t < 3) : (sp_X8_first (μ.1 8) t) = (μ.1 8 (11 + 25 * t + 0)) := by
  rfl
theorem kn_X8_first (l : Launch) (E : En) (μ : Mu)  (t : Nat) (ht : t < 3) : MtI l yX8_first cX8_first 2 .int ({ frames := 1, cells := 0, slots := 0, locals := 22 }) [.ref (E.1 (232)), .int (nI t)] E μ ((μ.1 8 (11 + 25 * t + 0)), μ) := by
  rw [← n_X8_first μ t ht]
  exact k_X8_first l E μ  t ht
/-- a table's nodes, its last temperature -/
def rN (g : Nat → Int32) (t : Nat) : Nat := (g (10 + 25 * t)).toNatClampNeg
def rL (g : Nat → Int32) (t : Nat) : Int32 := g (11 + 25 * t + (rN g t - 1))
def sp_X8_last (g : Nat → Int32)  (t : Nat) : Int32 :=
  (g (11 + 25 * t + ((g (10 + 25 * t)).toNatClampNeg - 1)))
set_option maxHeartbeats 4000000 in
set_option maxRecDepth 100000 in
theorem k_X8_last (l : Launch) (E : En) (μ : Mu)  (t : Nat) (ht : t < 3) (hI : RI (μ.1 8)) (hn1 : 1 ≤ rN (μ.1 8) t) : MtI l yX8_last cX8_last 2 .int ({ frames := 1, cells := 0, slots := 0, locals := 22 }) [.ref (E.1 (232)), .int (nI t)] E μ ((sp_X8_last (μ.1 8) t), μ) := by
  refine mt_of (by decide +kernel) (Nat.le_of_ble_eq_true rfl) ?_
  intro p e s m args below meth c ls hf hr hlocks hl hw
  have hx := hf.1
  have hb := hf.2.1
  have hl : lv_has ls 2 [(0, .ref (E.1 (232))), (1, .int (nI t))] := hl
  have hN13 := (hI.2.2.1 t ht).2
  have hn1u : 1 ≤ (μ.1 8 (10 + 25 * t)).toNatClampNeg := hn1
  refine lv_aload_n hx hb dX8_last_0 rfl (lv_at hl 0 rfl) ?_
  refine lv_iload_n hx hb dX8_last_1 rfl (lv_at hl 1 rfl) ?_
  refine lv_aload_n hx hb dX8_last_2 rfl (lv_at hl 0 rfl) ?_
  refine lv_iload_n hx hb dX8_last_3 rfl (lv_at hl 1 rfl) ?_
  refine c_iR hw (run_V (As := [.int (nI t)]) (rest := [.int (nI t), .ref (E.1 (232))]) (np := 1) hf hw (kn_X8_nodes l E _  t  (show t < 3 from ht)) ⟨gl_V q215 q216 q217 q5 q218, by decide +kernel⟩ ⟨rfl, rfl, Nat.le_of_ble_eq_true rfl, Nat.le_of_ble_eq_true rfl⟩ (by decide) (c_R E _) rfl rfl hl.1 rfl (Nat.le_of_ble_eq_true rfl) dX8_last_4 ⟨Nat.zero_le _, Nat.zero_le _⟩) (fun H locs hw => ?_)
  have hb1 := ((hI).2.2.1 _ ht).2
  refine fold_i (show μ.1 8 (10 + 25 * t) = nI ((μ.1 8 (10 + 25 * t)).toNatClampNeg) from ((hI).2.2.1 _ ht).1) ?_
  refine lv_iconst (v := 1) hx hb dX8_last_7 (by decide) ?_
  refine lv_isub hx hb dX8_last_8 ?_
  refine fold_i (show nI ((μ.1 8 (10 + 25 * t)).toNatClampNeg) - 1 = nI ((μ.1 8 (10 + 25 * t)).toNatClampNeg - 1) from pk_sub (a := (μ.1 8 (10 + 25 * t)).toNatClampNeg) (b := 1) (by omega)) ?_
  refine c_iR hw (run_V (As := [.int (nI t), .int (nI ((μ.1 8 (10 + 25 * t)).toNatClampNeg - 1))]) (rest := []) (np := 2) hf hw (kn_X8_degree l E _  t ((μ.1 8 (10 + 25 * t)).toNatClampNeg - 1)  (show t < 3 from ht) (show (μ.1 8 (10 + 25 * t)).toNatClampNeg - 1 < 12 from (by omega))) ⟨gl_V q219 q220 q221 q5 q222, by decide +kernel⟩ ⟨rfl, rfl, Nat.le_of_ble_eq_true rfl, Nat.le_of_ble_eq_true rfl⟩ (by decide) (c_R E _) rfl rfl hl.1 rfl (Nat.le_of_ble_eq_true rfl) dX8_last_9 ⟨Nat.zero_le _, Nat.zero_le _⟩) (fun H locs hw => ?_)
  exact e_i hf hr hlocks hw rfl (congrArg (fun z => (z, μ)) rfl) dX8_last_12
theorem n_X8_last (μ : Mu)  (t : Nat) (ht : t < 3) (hI : RI (μ.1 8)) (hn1 : 1 ≤ rN (μ.1 8) t) : (sp_X8_last (μ.1 8) t) = rL (μ.1 8) t := by
  rfl
theorem kn_X8_last (l : Launch) (E : En) (μ : Mu)  (t : Nat) (ht : t < 3) (hI : RI (μ.1 8)) (hn1 : 1 ≤ rN (μ.1 8) t) : MtI l yX8_last cX8_last 2 .int ({ frames := 1, cells := 0, slots := 0, locals := 22 }) [.ref (E.1 (232)), .int (nI t)] E μ (rL (μ.1 8) t, μ) := by
  rw [← n_X8_last μ t ht hI hn1]
  exact k_X8_last l E μ  t ht hI hn1
theorem le_of_lt1 {a : Nat} (h : ¬ a ≤ 1) : 1 ≤ a := by omega
def sp_X8_goes (g : Nat → Int32)  (t : Nat) (w : Int32) : Int32 :=
  if (nI ((g (10 + 25 * t)).toNatClampNeg) : Int32) ≤ 1 then
    0
  else
    if (g (11 + 25 * t + 0)) ≤ w ∧ w ≤ (rL g t) then
      1
    else
      0
set_option maxHeartbeats 4000000 in
set_option maxRecDepth 100000 in
theorem k_X8_goes (l : Launch) (E : En) (μ : Mu)  (t : Nat) (w : Int32) (ht : t < 3) (hI : RI (μ.1 8)) : MtI l yX8_goes cX8_goes 3 .boolean ({ frames := 2, cells := 0, slots := 0, locals := 43 }) [.ref (E.1 (232)), .int (nI t), .int (w)] E μ ((sp_X8_goes (μ.1 8) t w), μ) := by
  refine mt_of (by decide +kernel) (Nat.le_of_ble_eq_true rfl) ?_
  intro p e s m args below meth c ls hf hr hlocks hl hw
  have hx := hf.1
  have hb := hf.2.1
  have hl : lv_has ls 3 [(0, .ref (E.1 (232))), (1, .int (nI t)), (2, .int (w))] := hl
  have hN13 := (hI.2.2.1 t ht).2
  refine lv_aload_n hx hb dX8_goes_0 rfl (lv_at hl 0 rfl) ?_
  refine lv_iload_n hx hb dX8_goes_1 rfl (lv_at hl 1 rfl) ?_
  refine c_iR hw (run_V (As := [.int (nI t)]) (rest := []) (np := 1) hf hw (kn_X8_nodes l E _  t  (show t < 3 from ht)) ⟨gl_V q215 q216 q217 q5 q218, by decide +kernel⟩ ⟨rfl, rfl, Nat.le_of_ble_eq_true rfl, Nat.le_of_ble_eq_true rfl⟩ (by decide) (c_R E _) rfl rfl hl.1 rfl (Nat.le_of_ble_eq_true rfl) dX8_goes_2 ⟨Nat.zero_le _, Nat.zero_le _⟩) (fun H locs hw => ?_)
  have hb1 := ((hI).2.2.1 _ ht).2
  refine fold_i (show μ.1 8 (10 + 25 * t) = nI ((μ.1 8 (10 + 25 * t)).toNatClampNeg) from ((hI).2.2.1 _ ht).1) ?_
  refine lv_iconst (v := 1) hx hb dX8_goes_5 (by decide) ?_
  refine lv_icmp_le (tgt := 30) hx hb dX8_goes_6 (by decide) (fun c2 => ?_) (fun c2 => ?_)
  · have c2n : ((μ.1 8 (10 + 25 * t)).toNatClampNeg) ≤ 1 := by have q := (nI_leI (a := ((μ.1 8 (10 + 25 * t)).toNatClampNeg)) (b := 1) (by omega) (by omega)); first | exact q.mp c2 | exact fun z => c2 (q.mpr z)
    refine lv_iconst (v := 0) hx hb dX8_goes_30 (by decide) ?_
    exact e_i hf hr hlocks hw rfl (congrArg (fun z => (z, μ)) ((if_pos c2).trans rfl)) dX8_goes_31
  · have c2n : ¬ ((μ.1 8 (10 + 25 * t)).toNatClampNeg) ≤ 1 := by have q := (nI_leI (a := ((μ.1 8 (10 + 25 * t)).toNatClampNeg)) (b := 1) (by omega) (by omega)); first | exact q.mp c2 | exact fun z => c2 (q.mpr z)
    refine lv_iload_n hx hb dX8_goes_9 rfl (lv_at hl 2 rfl) ?_
    refine lv_aload_n hx hb dX8_goes_10 rfl (lv_at hl 0 rfl) ?_
    refine lv_iload_n hx hb dX8_goes_11 rfl (lv_at hl 1 rfl) ?_
    refine c_iR hw (run_V (As := [.int (nI t)]) (rest := [.int (w)]) (np := 1) hf hw (kn_X8_first l E _  t  (show t < 3 from ht)) ⟨gl_V q263 q264 q265 q5 q266, by decide +kernel⟩ ⟨rfl, rfl, Nat.le_of_ble_eq_true rfl, Nat.le_of_ble_eq_true rfl⟩ (by decide) (c_R E _) rfl rfl hl.1 rfl (Nat.le_of_ble_eq_true rfl) dX8_goes_12 ⟨Nat.zero_le _, Nat.zero_le _⟩) (fun H locs hw => ?_)
    refine lv_aload_n hx hb dX8_goes_15 rfl (lv_at hl 0 rfl) ?_
    refine lv_iload_n hx hb dX8_goes_16 rfl (lv_at hl 1 rfl) ?_
    refine c_iR hw (run_V (As := [.int (nI t)]) (rest := [.int ((μ.1 8 (11 + 25 * t + 0))), .int (w)]) (np := 1) hf hw (kn_X8_last l E _  t  (show t < 3 from ht) hI (le_of_lt1 c2n)) ⟨gl_V q267 q268 q269 q5 q270, by decide +kernel⟩ ⟨rfl, rfl, Nat.le_of_ble_eq_true rfl, Nat.le_of_ble_eq_true rfl⟩ (by decide) (c_R E _) rfl rfl hl.1 rfl (Nat.le_of_ble_eq_true rfl) dX8_goes_17 ⟨Nat.zero_le _, Nat.zero_le _⟩) (fun H locs hw => ?_)
    refine c_iR hw (run_S (As := [.int (w), .int ((μ.1 8 (11 + 25 * t + 0))), .int (rL (μ.1 8) t)]) (rest := []) (np := 3) hf hw (kn_X8_in l E _  w (μ.1 8 (11 + 25 * t + 0)) (rL (μ.1 8) t)  ) ⟨gl_S q207 q208 q5 q209, by decide +kernel⟩ ⟨rfl, rfl, Nat.le_of_ble_eq_true rfl, Nat.le_of_ble_eq_true rfl⟩ rfl hl.1 rfl (Nat.le_of_ble_eq_true rfl) dX8_goes_20 ⟨Nat.zero_le _, Nat.zero_le _⟩) (fun H locs hw => ?_)
    refine lv_if_eq (tgt := 30) hx hb dX8_goes_23 (by decide) (fun c3 => ?_) (fun c3 => ?_)
    · replace c3 := (bz_0 _).mp c3
      refine lv_iconst (v := 0) hx hb dX8_goes_30 (by decide) ?_
      exact e_i hf hr hlocks hw rfl (congrArg (fun z => (z, μ)) ((if_neg c2).trans ((if_neg c3).trans rfl))) dX8_goes_31
    · replace c3 := (bz_n0 _).mp c3
      refine lv_iconst (v := 1) hx hb dX8_goes_26 (by decide) ?_
      refine lv_goto (tgt := 31) hx hb dX8_goes_27 (by decide) ?_
      exact e_i hf hr hlocks hw rfl (congrArg (fun z => (z, μ)) ((if_neg c2).trans ((if_pos c3).trans rfl))) dX8_goes_31
theorem n_X8_goes (μ : Mu)  (t : Nat) (w : Int32) (ht : t < 3) (hI : RI (μ.1 8)) : (sp_X8_goes (μ.1 8) t w) = bz (2 ≤ rN (μ.1 8) t ∧ (μ.1 8 (11 + 25 * t + 0)) ≤ w ∧ w ≤ rL (μ.1 8) t) := by
  have hN := hI.2.2.1 t ht
  have e : (nI ((μ.1 8 (10 + 25 * t)).toNatClampNeg) ≤ 1) ↔ rN (μ.1 8) t ≤ 1 := nI_leI (b := 1) (by have := hN.2; omega) (by decide)
  unfold sp_X8_goes bz
  by_cases h : rN (μ.1 8) t ≤ 1
  · rw [if_pos (e.mpr h), if_neg (fun q => by omega)]
  · rw [if_neg (fun q => h (e.mp q))]
    by_cases h2 : μ.1 8 (11 + 25 * t + 0) ≤ w ∧ w ≤ rL (μ.1 8) t
    · rw [if_pos h2, if_pos ⟨by omega, h2⟩]
    · rw [if_neg h2, if_neg (fun q => h2 q.2)]
theorem kn_X8_goes (l : Launch) (E : En) (μ : Mu)  (t : Nat) (w : Int32) (ht : t < 3) (hI : RI (μ.1 8)) : MtI l yX8_goes cX8_goes 3 .boolean ({ frames := 2, cells := 0, slots := 0, locals := 43 }) [.ref (E.1 (232)), .int (nI t), .int (w)] E μ (bz (2 ≤ rN (μ.1 8) t ∧ (μ.1 8 (11 + 25 * t + 0)) ≤ w ∧ w ≤ rL (μ.1 8) t), μ) := by
  rw [← n_X8_goes μ t w ht hI]
  exact k_X8_goes l E μ  t w ht hI
