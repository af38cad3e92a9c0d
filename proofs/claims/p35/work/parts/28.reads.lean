/-! ===== what the reading calls answer ===== -/
section RD
variable {g : Nat → Int32} {M : Nat → Nat → Int32} {μ : Mu} {T N B t k : Nat}
theorem cn_0 : sp_X7_count M 0 = M 0 0 := by
  unfold sp_X7_count
  rw [if_neg (by decide), if_neg (by decide), if_pos rfl]
theorem cn_1 : sp_X7_count M 1 = M 0 1 := by
  unfold sp_X7_count
  rw [if_neg (by decide), if_neg (by decide), if_neg (by decide), if_pos rfl]
theorem cn_3 : sp_X7_count M 3 = sp_X4_alarmsOn (M 0) := by
  unfold sp_X7_count
  rw [if_neg (by decide), if_neg (by decide), if_neg (by decide), if_neg (by decide), if_neg (by decide), if_pos rfl]
theorem cn_4 : sp_X7_count M 4 = sp_X4_allReadings (M 0) := by
  unfold sp_X7_count
  rw [if_neg (by decide), if_neg (by decide), if_neg (by decide), if_neg (by decide), if_neg (by decide), if_neg (by decide), if_pos rfl]
theorem cn_21 : sp_X7_count M 21 = M 0 4 := by
  unfold sp_X7_count
  rw [if_pos (by decide), show (21 - 20 : Int32) = nI 1 by decide]
  exact set_j (j := 1) (by decide)
theorem cn_22 : sp_X7_count M 22 = M 0 5 := by
  unfold sp_X7_count
  rw [if_pos (by decide), show (22 - 20 : Int32) = nI 2 by decide]
  exact set_j (j := 2) (by decide)
theorem cn_23 : sp_X7_count M 23 = M 0 6 := by
  unfold sp_X7_count
  rw [if_pos (by decide), show (23 - 20 : Int32) = nI 3 by decide]
  exact set_j (j := 3) (by decide)
theorem cn_t (h : Gd (M 0) T N B) (ht : t < T) : sp_X7_count M (nI (10 + t)) = 4 := by
  have h2 := h.1.1
  have e : sp_X7_count M (nI (10 + t)) = M 0 (tN t) := by
    rcases (show t = 0 ∨ t = 1 by omega) with rfl | rfl
    · unfold sp_X7_count
      rw [if_neg (by decide), if_pos (by decide), show (nI (10 + 0) - 10 : Int32) = nI 0 by decide]
      exact oc_some (gd_tab_at h ht)
    · unfold sp_X7_count
      rw [if_neg (by decide), if_pos (by decide), show (nI (10 + 1) - 10 : Int32) = nI 1 by decide]
      exact oc_some (gd_tab_at h ht)
  rw [e, (h.2.2.2.1 t ht).1]
  rfl
theorem nd_0 {n : Nat} (h0 : g 0 = nI T) (hT : T ≤ 3) (ht : t < T) (hb : Tb g t n) (hn : n ≤ 12) (hk : k < n) : sp_X7_nodeAt g (nI t) (nI k) 0 = g (tD t k) := by
  unfold sp_X7_nodeAt
  refine (oc_some (tab_at h0 hT ht)).trans ?_
  rw [if_neg (nI_pos (by omega)), if_pos (by decide), if_pos (by rw [hb.1, nI_ltI (by omega) (by omega)]; exact hk), if_pos rfl]
  exact tmp_k (by omega)
theorem nd_1 {n : Nat} (h0 : g 0 = nI T) (hT : T ≤ 3) (ht : t < T) (hb : Tb g t n) (hn : n ≤ 12) (hk : k < n) : sp_X7_nodeAt g (nI t) (nI k) 1 = g (tR t k) := by
  unfold sp_X7_nodeAt
  refine (oc_some (tab_at h0 hT ht)).trans ?_
  rw [if_neg (nI_pos (by omega)), if_pos (by decide), if_pos (by rw [hb.1, nI_ltI (by omega) (by omega)]; exact hk), if_neg (by decide)]
  exact rto_k (by omega)
theorem go_1 {w : Int32} (h : Tb g t 4) (h0 : dI g t 0 ≤ w.toInt) (h3 : w.toInt ≤ dI g t 3) : sp_X5_goesTo g t w = 1 := by
  have u1 : (g (tD t 0)).toInt = dI g t 0 := rfl
  have u2 : (g (tD t 3)).toInt = dI g t 3 := rfl
  unfold sp_X5_goesTo
  rw [h.1, if_neg (by decide), show nI 4 - 1 = nI 3 by decide, show (0 : Int32) = nI 0 from rfl, tmp_k (by decide), tmp_k (by decide), if_neg (by rw [Int32.lt_iff_toInt_lt]; omega), if_neg (by rw [Int32.lt_iff_toInt_lt]; omega)]
theorem go_0 {w : Int32} (h : Tb g t 4) (hw : ¬ (dI g t 0 ≤ w.toInt ∧ w.toInt ≤ dI g t 3)) : sp_X5_goesTo g t w = 0 := by
  have u1 : (g (tD t 0)).toInt = dI g t 0 := rfl
  have u2 : (g (tD t 3)).toInt = dI g t 3 := rfl
  unfold sp_X5_goesTo
  rw [h.1, if_neg (by decide), show nI 4 - 1 = nI 3 by decide, show (0 : Int32) = nI 0 from rfl, tmp_k (by decide), tmp_k (by decide)]
  by_cases c : w < g (tD t 0)
  · rw [if_pos c]
  · rw [if_neg c, if_pos (by rw [Int32.lt_iff_toInt_lt] at c ⊢; omega)]
theorem ra_v {w : Int32} (h0 : g 0 = nI T) (hT : T ≤ 3) (ht : t < T) (hb : Tb g t 4) (h1 : dI g t 0 ≤ w.toInt) (h3 : w.toInt ≤ dI g t 3) : sp_X7_ratio g (nI t) w = sp_X5_ratioAt g t w := by
  have b0 := hb.2.2 0 (by decide)
  have b3 := hb.2.2 3 (by decide)
  unfold sp_X7_ratio
  refine (oc_some (tab_at h0 hT ht)).trans ?_
  rw [if_pos ((i2t w).mpr ⟨by rw [Int32.le_iff_toInt_le, show (-200000 : Int32).toInt = -200000 by decide]; omega, by rw [Int32.le_iff_toInt_le, show (850000 : Int32).toInt = 850000 by decide]; omega⟩), go_1 hb h1 h3, if_neg (by decide)]
theorem ra_no {w : Int32} (h0 : g 0 = nI T) (hT : T ≤ 3) (ht : t < T) (hb : Tb g t 4) (hw : -200000 ≤ w.toInt ∧ w.toInt ≤ 850000) (h1 : ¬ (dI g t 0 ≤ w.toInt ∧ w.toInt ≤ dI g t 3)) : sp_X7_ratio g (nI t) w = -2000000004 := by
  unfold sp_X7_ratio
  refine (oc_some (tab_at h0 hT ht)).trans ?_
  rw [if_pos ((i2t w).mpr ⟨by rw [Int32.le_iff_toInt_le, show (-200000 : Int32).toInt = -200000 by decide]; omega, by rw [Int32.le_iff_toInt_le, show (850000 : Int32).toInt = 850000 by decide]; omega⟩), go_0 hb h1, if_pos rfl]
theorem in_v {r : Int32} (h0 : g 0 = nI T) (hT : T ≤ 3) (ht : t < T) (hr : 1 ≤ r.toInt ∧ r.toInt ≤ 10000000) : sp_X7_inverse g (nI t) r = sp_X5_temperatureFor g t r.toInt64 := by
  unfold sp_X7_inverse
  refine (oc_some (tab_at h0 hT ht)).trans ?_
  rw [if_pos ((i2g (L := 1) (H := 10000000) (by decide) (by decide)).mpr ⟨by rw [Int32.le_iff_toInt_le, show (1 : Int32).toInt = 1 by decide]; omega, by rw [Int32.le_iff_toInt_le, show (10000000 : Int32).toInt = 10000000 by decide]; omega⟩)]
theorem so_0 (h1 : g 1 = nI N) (hN : N ≤ 6) (hk : k < N) : sp_X7_sensorOf g (nI k) 0 = g (sF k 0) := by
  unfold sp_X7_sensorOf
  refine (oc_some (sen_at h1 hN hk)).trans ?_
  rw [if_pos (by decide), if_neg (by decide), if_neg (by decide), if_pos rfl]
theorem so_1 (h1 : g 1 = nI N) (hN : N ≤ 6) (hk : k < N) : sp_X7_sensorOf g (nI k) 1 = g (sF k 1) := by
  unfold sp_X7_sensorOf
  refine (oc_some (sen_at h1 hN hk)).trans ?_
  rw [if_pos (by decide), if_neg (by decide), if_neg (by decide), if_neg (by decide), if_pos rfl]
theorem so_2 (h1 : g 1 = nI N) (hN : N ≤ 6) (hk : k < N) : sp_X7_sensorOf g (nI k) 2 = g (sF k 2) := by
  unfold sp_X7_sensorOf
  refine (oc_some (sen_at h1 hN hk)).trans ?_
  rw [if_pos (by decide), if_neg (by decide), if_neg (by decide), if_neg (by decide), if_neg (by decide), if_pos rfl]
theorem so_3 (h1 : g 1 = nI N) (hN : N ≤ 6) (hk : k < N) : sp_X7_sensorOf g (nI k) 3 = g (sF k 3) := by
  unfold sp_X7_sensorOf
  refine (oc_some (sen_at h1 hN hk)).trans ?_
  rw [if_pos (by decide), if_neg (by decide), if_neg (by decide), if_neg (by decide), if_neg (by decide), if_neg (by decide), if_pos rfl]
theorem so_4 (h1 : g 1 = nI N) (hN : N ≤ 6) (hk : k < N) : sp_X7_sensorOf g (nI k) 4 = g (sF k 4) := by
  unfold sp_X7_sensorOf
  refine (oc_some (sen_at h1 hN hk)).trans ?_
  rw [if_pos (by decide), if_neg (by decide), if_neg (by decide), if_neg (by decide), if_neg (by decide), if_neg (by decide), if_neg (by decide), if_pos rfl]
theorem so_12 (h1 : g 1 = nI N) (hN : N ≤ 6) (hk : k < N) : sp_X7_sensorOf g (nI k) 12 = g (sF k 5) := by
  unfold sp_X7_sensorOf
  refine (oc_some (sen_at h1 hN hk)).trans ?_
  rw [if_pos (by decide), if_neg (by decide), if_neg (by decide), if_neg (by decide), if_neg (by decide), if_neg (by decide), if_neg (by decide), if_neg (by decide), if_neg (by decide), if_neg (by decide), if_neg (by decide), if_neg (by decide), if_neg (by decide), if_neg (by decide), if_neg (by decide), if_pos rfl]
theorem so_14 (h1 : g 1 = nI N) (hN : N ≤ 6) (hk : k < N) : sp_X7_sensorOf g (nI k) 14 = g (sF k 7) := by
  unfold sp_X7_sensorOf
  refine (oc_some (sen_at h1 hN hk)).trans ?_
  rw [if_pos (by decide), if_neg (by decide), if_neg (by decide), if_neg (by decide), if_neg (by decide), if_neg (by decide), if_neg (by decide), if_neg (by decide), if_neg (by decide), if_neg (by decide), if_neg (by decide), if_neg (by decide), if_neg (by decide), if_neg (by decide), if_neg (by decide), if_neg (by decide), if_neg (by decide), if_pos rfl]
theorem so_15 (h1 : g 1 = nI N) (hN : N ≤ 6) (hk : k < N) : sp_X7_sensorOf g (nI k) 15 = g (sF k 8) := by
  unfold sp_X7_sensorOf
  refine (oc_some (sen_at h1 hN hk)).trans ?_
  rw [if_pos (by decide), if_neg (by decide), if_neg (by decide), if_neg (by decide), if_neg (by decide), if_neg (by decide), if_neg (by decide), if_neg (by decide), if_neg (by decide), if_neg (by decide), if_neg (by decide), if_neg (by decide), if_neg (by decide), if_neg (by decide), if_neg (by decide), if_neg (by decide), if_neg (by decide), if_neg (by decide), if_pos rfl]
theorem so_17 (h1 : g 1 = nI N) (hN : N ≤ 6) (hk : k < N) : sp_X7_sensorOf g (nI k) 17 = g (sF k 10) := by
  unfold sp_X7_sensorOf
  refine (oc_some (sen_at h1 hN hk)).trans ?_
  rw [if_pos (by decide), if_neg (by decide), if_neg (by decide), if_neg (by decide), if_neg (by decide), if_neg (by decide), if_neg (by decide), if_neg (by decide), if_neg (by decide), if_neg (by decide), if_neg (by decide), if_neg (by decide), if_neg (by decide), if_neg (by decide), if_neg (by decide), if_neg (by decide), if_neg (by decide), if_neg (by decide), if_neg (by decide), if_neg (by decide), if_pos rfl]
theorem so_18 (h1 : g 1 = nI N) (hN : N ≤ 6) (hk : k < N) : sp_X7_sensorOf g (nI k) 18 = g (sF k 11) := by
  unfold sp_X7_sensorOf
  refine (oc_some (sen_at h1 hN hk)).trans ?_
  rw [if_pos (by decide), if_neg (by decide), if_neg (by decide), if_neg (by decide), if_neg (by decide), if_neg (by decide), if_neg (by decide), if_neg (by decide), if_neg (by decide), if_neg (by decide), if_neg (by decide), if_neg (by decide), if_neg (by decide), if_neg (by decide), if_neg (by decide), if_neg (by decide), if_neg (by decide), if_neg (by decide), if_neg (by decide), if_neg (by decide), if_neg (by decide)]
theorem so_11 (h1 : g 1 = nI N) (hN : N ≤ 6) (hk : k < N) : sp_X7_sensorOf g (nI k) 11 = g (sF k 18) := by
  unfold sp_X7_sensorOf
  refine (oc_some (sen_at h1 hN hk)).trans ?_
  rw [if_pos (by decide), if_neg (by decide), if_pos (by decide), show (11 - 9 : Int32) = nI 2 by decide]
  exact stra_j (j := 2) (by decide)
theorem so_13 {p : Nat} (h1 : g 1 = nI N) (hN : N ≤ 6) (hk : k < N) (hp : g (sF k 6) = nI p) (h12 : p < 12) : sp_X7_sensorOf g (nI k) 13 = nI (p / 3 * 10 + p % 3) := by
  unfold sp_X7_sensorOf
  refine (oc_some (sen_at h1 hN hk)).trans ?_
  rw [if_pos (by decide), if_neg (by decide), if_neg (by decide), if_neg (by decide), if_neg (by decide), if_neg (by decide), if_neg (by decide), if_neg (by decide), if_neg (by decide), if_neg (by decide), if_neg (by decide), if_neg (by decide), if_neg (by decide), if_neg (by decide), if_neg (by decide), if_neg (by decide), if_pos rfl, hp, if_pos (fun q => by have := congrArg Int32.toInt q; rw [nI_toInt (by omega), show (-1 : Int32).toInt = -1 by decide] at this; omega)]
  unfold sp_X7_toldPlace
  rw [show (3 : Int32) = nI 3 from rfl, pk_rem (by omega) (by decide) (by decide), pk_div (by omega) (by decide) (by decide), show (10 : Int32) = nI 10 from rfl, pk_mul, nI_add]
theorem so_l {j w : Nat} (h1 : g 1 = nI N) (hN : N ≤ 6) (hk : k < N) (hw : g (sF k 1) = nI w) (hw4 : w ≤ 4) (hj : j < w) : sp_X7_sensorOf g (nI k) (nI (5 + j)) = g (sF k (12 + j)) := by
  unfold sp_X7_sensorOf
  refine (oc_some (sen_at h1 hN hk)).trans ?_
  have e : ∀ (a b : Nat), a ≤ 5 + j → 5 + j ≤ b → b < 100 → (nI a).toInt64 ≤ (nI (5 + j)).toInt64 ∧ (nI (5 + j)).toInt64 ≤ (nI b).toInt64 := fun a b p q r => ⟨(le64 _ _).mpr ((nI_leI (by omega) (by omega)).mpr p), (le64 _ _).mpr ((nI_leI (by omega) (by omega)).mpr q)⟩
  rw [if_pos (show (0 : Int64) ≤ _ ∧ _ ≤ (18 : Int64) from e 0 18 (by omega) (by omega) (by omega)), if_pos (show (5 : Int64) ≤ _ ∧ _ ≤ (8 : Int64) from e 5 8 (by omega) (by omega) (by omega)), show (nI (5 + j) - 5 : Int32) = nI j by rw [show (5 : Int32) = nI 5 from rfl, pk_sub (by omega)]; congr 1; omega, hw, if_pos ⟨nI_pos' (by omega), (nI_ltI (by omega) (by omega)).mpr hj⟩]
  exact lead_j (by omega)
/-! places -/
theorem in_none {w : Int32} (h1 : g 1 = nI N) (hN : N ≤ 6) (hne : ∀ n, n < N → g (sF n 6) ≠ w) : ∀ (f k : Nat), k + f = 7 → lp_X4_sensorIn_2 g w f k = -1 ∨ f = 0 := by
  intro f
  induction f with
  | zero => intro k _; exact Or.inr rfl
  | succ f ih =>
    intro k hk
    refine Or.inl ?_
    rw [lp_X4_sensorIn_2, h1]
    by_cases c : N ≤ k
    · rw [if_pos ((nI_leI (by omega) (by omega)).mpr c)]
    · rw [if_neg (fun q => c ((nI_leI (by omega) (by omega)).mp q)), if_neg (by rw [show (6 : Int32) = nI 6 from rfl, nI_leI (by omega) (by omega)]; omega), if_neg (hne k (by omega))]
      rcases ih (k + 1) (by omega) with q | q
      · exact q
      · omega
theorem sI_none {w : Int32} (h1 : g 1 = nI N) (hN : N ≤ 6) (hne : ∀ n, n < N → g (sF n 6) ≠ w) : sp_X4_sensorIn g w = -1 := by
  rcases in_none h1 hN hne 7 0 rfl with q | q
  · exact q
  · omega
theorem in_some {w : Int32} {m : Nat} (h1 : g 1 = nI N) (hN : N ≤ 6) (hm : m < N) (he : g (sF m 6) = w) (hne : ∀ n, n < m → g (sF n 6) ≠ w) : ∀ (f k : Nat), k + f = 7 → k ≤ m → lp_X4_sensorIn_2 g w f k = nI m := by
  intro f
  induction f with
  | zero => intro k a b; omega
  | succ f ih =>
    intro k hk hkm
    rw [lp_X4_sensorIn_2, h1, if_neg (by rw [nI_leI (by omega) (by omega)]; omega), if_neg (by rw [show (6 : Int32) = nI 6 from rfl, nI_leI (by omega) (by omega)]; omega)]
    by_cases c : k = m
    · subst c; rw [if_pos he]
    · rw [if_neg (hne k (by omega))]
      exact ih (k + 1) (by omega) (by omega)
theorem sI_some {w : Int32} {m : Nat} (h1 : g 1 = nI N) (hN : N ≤ 6) (hm : m < N) (he : g (sF m 6) = w) (hne : ∀ n, n < m → g (sF n 6) ≠ w) : sp_X4_sensorIn g w = nI m := in_some h1 hN hm he hne 7 0 rfl (Nat.zero_le _)
theorem plc_ij {a b : Nat} (ha : a < 4) (hb : b < 4) (h : nI (plc a) = nI (plc b)) : a = b := by
  have := nI_ij (by unfold plc; omega) (by unfold plc; omega) h
  unfold plc at this
  omega
theorem gd_in (h : Gd g T N B) (hk : k < N) : sp_X4_sensorIn g (nI (plc k)) = nI k := by
  have h4 := h.1.2
  have e : ∀ n, n < N → g (sF n 6) = nI (plc n) := fun n hn => (h.2.2.2.2.1 n hn).2.2.2.2.2.1
  refine sI_some h.2.1.2 (by omega) hk (e k hk) (fun n hn q => ?_)
  rw [e n (by omega)] at q
  have := plc_ij (by omega) (by omega) q
  omega
theorem sl_k (h : Gd g T N B) (hk : k < N) : sp_X7_slotAt g (nI (k % 3)) (nI (k / 3)) = nI k := by
  have h4 := h.1.2
  have e : ∀ (a b : Nat), a ≤ b → b < 100 → (0 : Int64) ≤ (nI a).toInt64 ∧ (nI a).toInt64 ≤ (nI b).toInt64 := fun a b q r => ⟨(le64 0 _).mpr (nI_pos' (by omega)), (le64 _ _).mpr ((nI_leI (by omega) (by omega)).mpr q)⟩
  unfold sp_X7_slotAt
  rw [if_pos ⟨(show (0 : Int64) ≤ _ ∧ _ ≤ (3 : Int64) from e _ 3 (by omega) (by omega)), (show (0 : Int64) ≤ _ ∧ _ ≤ (2 : Int64) from e _ 2 (by omega) (by omega))⟩, show (nI (k % 3) * 3 + nI (k / 3) : Int32) = nI (plc k) by rw [show (3 : Int32) = nI 3 from rfl, pk_mul, nI_add], gd_in h hk, if_neg (fun q => by have := congrArg Int32.toInt q; rw [nI_toInt (by omega), show (-1 : Int32).toInt = -1 by decide] at this; omega)]
end RD
