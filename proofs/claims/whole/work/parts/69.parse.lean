/-! ===== orders are read alike ===== -/
def PS (L p : Nat) (m y : Mu) : Prop := p ≤ L ∧ L ≤ 60 ∧ m.1 6 3 = nI L ∧ y.1 7 1 = nI L ∧ (∀ i, i < 60 → m.1 6 (8 + i) = y.1 12 i) ∧ m.1 6 7 = nI p ∧ y.1 7 2 = nI p
def FrC (m m' : Mu) : Prop := m'.2 = m.2 ∧ (∀ c, c ≠ 6 → m'.1 c = m.1 c) ∧ ∀ k, k ≠ 7 → m'.1 6 k = m.1 6 k
def FrY (y y' : Mu) : Prop := y'.2 = y.2 ∧ (∀ c, c ≠ 7 → c ≠ 13 → y'.1 c = y.1 c) ∧ ∀ k, k ≠ 2 → y'.1 7 k = y.1 7 k
theorem frC_r {m : Mu} : FrC m m := ⟨rfl, fun _ _ => rfl, fun _ _ => rfl⟩
theorem frC_t {a b c : Mu} (h1 : FrC a b) (h2 : FrC b c) : FrC a c := ⟨h2.1.trans h1.1, fun k hk => (h2.2.1 k hk).trans (h1.2.1 k hk), fun k hk => (h2.2.2 k hk).trans (h1.2.2 k hk)⟩
theorem frY_t {a b c : Mu} (h1 : FrY a b) (h2 : FrY b c) : FrY a c := ⟨h2.1.trans h1.1, fun k hk hk2 => (h2.2.1 k hk hk2).trans (h1.2.1 k hk hk2), fun k hk => (h2.2.2 k hk).trans (h1.2.2 k hk)⟩
theorem frC_p {m : Mu} {v : Int32} : FrC m (pM m 6 7 v) := ⟨rfl, fun _ h => row_n _ h, fun _ h => row_k _ h⟩
theorem frY_p {y : Mu} {v : Int32} : FrY y (pM y 7 2 v) := ⟨rfl, fun _ h _ => row_n _ h, fun _ h => row_k _ h⟩
theorem frY_13 {y : Mu} {k : Nat} {v : Int32} : FrY y (pM y 13 k v) := ⟨rfl, fun _ _ h => row_n _ h, fun k _ => by rw [row_n _ (by omega)]⟩
theorem ps_mv {L p q : Nat} {m y m' y' : Mu} (h : PS L p m y) (hq : q ≤ L) (fc : FrC m m') (fy : FrY y y') (e1 : m'.1 6 7 = nI q) (e2 : y'.1 7 2 = nI q) : PS L q m' y' := by
  obtain ⟨h1, h2, h3, h4, h5, -, -⟩ := h
  exact ⟨hq, h2, (fc.2.2 3 (by omega)).trans h3, (fy.2.2 1 (by omega)).trans h4, fun i hi => by rw [fc.2.2 _ (by omega), fy.2.1 12 (by omega) (by omega)]; exact h5 i hi, e1, e2⟩
theorem chr_at {L p q : Nat} {m y : Mu} (h : PS L q m y) (hp : p ≤ L) : sp_X6_characterAt (m.1 6) (nI p) = if p < L then y.1 12 p else 0 := by
  obtain ⟨h1, h2, h3, h4, h5, -, -⟩ := h
  unfold sp_X6_characterAt
  rw [if_neg (nI_pos (by omega)), h3]
  by_cases c : p < L
  · rw [if_neg (by rw [nI_leI (by omega) (by omega)]; omega), if_neg (by rw [show (60 : Int32) = nI 60 from rfl, nI_leI (by omega) (by omega)]; omega), nI_clamp (by omega), if_pos c, h5 p (by omega)]
  · rw [if_pos (by rw [nI_leI (by omega) (by omega)]; omega), if_neg c]
theorem tk_ps {L p : Nat} {m y : Mu} {ch : Int32} (h : PS L p m y) (hch : ¬ ch = 0) : (sp_X6_takes m ch = (0, m) ∧ ∃ y', sp_X8_passes y ch = (0, y') ∧ PS L p m y' ∧ FrY y y' ∧ y'.1 13 = y.1 13) ∨ ∃ m' y', sp_X6_takes m ch = (1, m') ∧ sp_X8_passes y ch = (1, y') ∧ PS L (p + 1) m' y' ∧ FrC m m' ∧ FrY y y' ∧ y'.1 13 = y.1 13 := by
  have hh := h
  obtain ⟨h1, h2, h3, h4, h5, h6, h7⟩ := h
  unfold sp_X6_takes sp_X8_passes
  rw [h6, chr_at hh h1, h4, h7, nI_clamp (by omega), nI_clamp (by omega)]
  have e0 : pM y 7 2 (nI (p + 0)) = pM y 7 2 (nI p) := rfl
  by_cases c : p < L
  · rw [if_pos c, if_neg (show ¬ nI L ≤ nI p by rw [nI_leI (by omega) (by omega)]; omega)]
    by_cases d : y.1 12 p = ch
    · rw [if_pos d, if_pos d, nI_1]
      exact Or.inr ⟨_, _, rfl, rfl, ps_mv hh c frC_p frY_p (row_at _) (row_at _), frC_p, frY_p, row_n _ (by omega)⟩
    · rw [if_neg d, if_neg d]
      exact Or.inl ⟨rfl, _, rfl, ps_mv hh h1 frC_r frY_p h6 (row_at _), frY_p, row_n _ (by omega)⟩
  · rw [if_neg c, if_pos (show nI L ≤ nI p by rw [nI_leI (by omega) (by omega)]; omega), if_neg (fun q => hch q.symm)]
    exact Or.inl ⟨rfl, _, rfl, ps_mv hh h1 frC_r frY_p h6 (row_at _), frY_p, row_n _ (by omega)⟩
theorem dg_lp {x μ0 : Mu} {L p0 i : Nat} (hx : (x.1 7 2).toNatClampNeg = p0) : ∀ (f k v : Nat) (m y : Mu), k + f = 7 → k ≤ 6 → PS L (p0 + k) m y → v < 10 ^ k → y.1 13 i = nI v → ∃ k' v' m' y', k ≤ k' ∧ k' ≤ 6 ∧ v' < 10 ^ k' ∧ lp_X6_parsedDigits_4 μ0 f (nI v) k m = ((if k' = 0 then -1 else nI v'), m') ∧ lp_X8_takes_12 x i f y = ((if k' = 0 then 0 else 1), y') ∧ PS L (p0 + k') m' y' ∧ y'.1 13 i = nI v' ∧ (∀ z, z ≠ i → y'.1 13 z = y.1 13 z) ∧ FrC m m' ∧ FrY y y' := by
  intro f
  induction f with
  | zero => intro k v m y h1 h2; omega
  | succ f ih =>
    intro k v m y h1 h2 hh hv hi
    obtain ⟨p1, p2, p3, p4, p5, p6, p7⟩ := hh
    have hh : PS L (p0 + k) m y := ⟨p1, p2, p3, p4, p5, p6, p7⟩
    have hv6 : v < 10 ^ 6 := Nat.lt_of_lt_of_le hv (Nat.pow_le_pow_right (by omega) h2)
    have hv6' : v < 1000000 := hv6
    have ex0 : (if (nI k : Int32) = 0 then ((-1 : Int32), m) else (nI v, m)) = ((if k = 0 then -1 else nI v), m) := by
      by_cases z : k = 0
      · subst z; rw [if_pos (show nI 0 = 0 from rfl), if_pos rfl]
      · rw [if_neg (nI_ne0 (by omega) (by omega)), if_neg z]
    have ey0 : (if (nI (p0 + k) : Int32) ≤ nI p0 then ((0 : Int32), y) else (1, y)) = ((if k = 0 then 0 else 1), y) := by
      by_cases z : k = 0
      · subst z; rw [if_pos (by rw [nI_leI (by omega) (by omega)]; omega), if_pos rfl]
      · rw [if_neg (by rw [nI_leI (by omega) (by omega)]; omega), if_neg z]
    have stop : lp_X6_parsedDigits_4 μ0 (f + 1) (nI v) k m = ((if k = 0 then -1 else nI v), m) → lp_X8_takes_12 x i (f + 1) y = ((if k = 0 then 0 else 1), y) → ∃ k' v' m' y', k ≤ k' ∧ k' ≤ 6 ∧ v' < 10 ^ k' ∧ lp_X6_parsedDigits_4 μ0 (f + 1) (nI v) k m = ((if k' = 0 then -1 else nI v'), m') ∧ lp_X8_takes_12 x i (f + 1) y = ((if k' = 0 then 0 else 1), y') ∧ PS L (p0 + k') m' y' ∧ y'.1 13 i = nI v' ∧ (∀ z, z ≠ i → y'.1 13 z = y.1 13 z) ∧ FrC m m' ∧ FrY y y' := fun a b => ⟨k, v, m, y, Nat.le_refl _, h2, hv, a, b, hh, hi, fun _ _ => rfl, frC_r, ⟨rfl, fun _ _ _ => rfl, fun _ _ => rfl⟩⟩
    have ca := chr_at hh p1
    by_cases c6 : 6 ≤ k
    · apply stop
      · unfold lp_X6_parsedDigits_4
        rw [if_pos (by rw [show (6 : Int32) = nI 6 from rfl, nI_leI (by omega) (by omega)]; exact c6)]
        exact ex0
      · unfold lp_X8_takes_12
        rw [p4, p7, hx, nI_clamp (by omega), nI_clamp (by omega), if_pos (show nI (p0 + 6) ≤ nI (p0 + k) by rw [nI_leI (by omega) (by omega)]; omega), ey0]
        split <;> rfl
    · have n6 : ¬ (6 : Int32) ≤ nI k := by rw [show (6 : Int32) = nI 6 from rfl, nI_leI (by omega) (by omega)]; exact c6
      have n66 : ¬ nI (p0 + 6) ≤ nI (p0 + k) := by rw [nI_leI (by omega) (by omega)]; omega
      by_cases cL : p0 + k < L
      · rw [if_pos cL] at ca
        have nL : ¬ nI L ≤ nI (p0 + k) := by rw [nI_leI (by omega) (by omega)]; omega
        by_cases cd : (48 : Int32) ≤ y.1 12 (p0 + k) ∧ y.1 12 (p0 + k) ≤ 57
        · obtain ⟨d, hd, ed⟩ : ∃ d, d < 10 ∧ y.1 12 (p0 + k) = nI (48 + d) := by
            obtain ⟨a1, a2, a3⟩ := na_rng 48 57 rfl rfl (by omega) (by omega) cd
            exact ⟨(y.1 12 (p0 + k)).toNatClampNeg - 48, by omega, by rw [show 48 + ((y.1 12 (p0 + k)).toNatClampNeg - 48) = (y.1 12 (p0 + k)).toNatClampNeg by omega]; exact a1⟩
          have hv2 : 10 * v + d < 10 ^ (k + 1) := by
            have : 10 ^ (k + 1) = 10 ^ k * 10 := Nat.pow_succ 10 k
            omega
          have c48 : ¬ nI (48 + d) < 48 := by rw [show (48 : Int32) = nI 48 from rfl, nI_ltI (by omega) (by omega)]; omega
          have c57 : ¬ (57 : Int32) < nI (48 + d) := by rw [show (57 : Int32) = nI 57 from rfl, nI_ltI (by omega) (by omega)]; omega
          have ec : (nI v * 10) + (nI (48 + d) - 48) = nI (10 * v + d) := by
            rw [show (48 : Int32) = nI 48 from rfl, pk_sub (by omega), show (10 : Int32) = nI 10 from rfl, pk_mul, nI_add]
            congr 1
            omega
          have er : ((10 * nI v) + nI (48 + d)) - 48 = nI (10 * v + d) := by
            rw [show (48 : Int32) = nI 48 from rfl, show (10 : Int32) = nI 10 from rfl, pk_mul, nI_add, pk_sub (by omega)]
            congr 1
            omega
          have lc : lp_X6_parsedDigits_4 μ0 (f + 1) (nI v) k m = lp_X6_parsedDigits_4 μ0 f (nI (10 * v + d)) (k + 1) (pM m 6 7 (nI (p0 + k + 1))) := by
            conv => lhs; unfold lp_X6_parsedDigits_4
            rw [if_neg n6, p6, ca, ed, if_neg c48, if_neg c57, ec, nI_1]
          have lr : lp_X8_takes_12 x i (f + 1) y = lp_X8_takes_12 x i f (pM (pM y 13 i (nI (10 * v + d))) 7 2 (nI (p0 + k + 1))) := by
            conv => lhs; unfold lp_X8_takes_12
            rw [p4, p7, hx, nI_clamp (by omega), nI_clamp (by omega), if_neg nL, if_neg n66, if_pos cd, hi, ed, er]
          have fy : FrY y (pM (pM y 13 i (nI (10 * v + d))) 7 2 (nI (p0 + k + 1))) := frY_t frY_13 frY_p
          obtain ⟨k', v', m', y', q1, q2, q3, q4, q5, q6, q7, q8, q9, q10⟩ := ih (k + 1) (10 * v + d) (pM m 6 7 (nI (p0 + k + 1))) (pM (pM y 13 i (nI (10 * v + d))) 7 2 (nI (p0 + k + 1))) (by omega) (by omega) (ps_mv hh (by omega) frC_p fy (row_at _) (row_at _)) hv2 (by rw [row_n _ (by omega)]; exact row_at _)
          refine ⟨k', v', m', y', by omega, q2, q3, lc.trans q4, lr.trans q5, q6, q7, fun z hz => ?_, frC_t frC_p q9, frY_t fy q10⟩
          rw [q8 z hz, row_n _ (by omega), row_k _ hz]
        · apply stop
          · unfold lp_X6_parsedDigits_4
            rw [if_neg n6, p6, ca]
            by_cases a : y.1 12 (p0 + k) < 48
            · rw [if_pos a]; exact ex0
            · rw [if_neg a, if_pos]
              · exact ex0
              · rw [Int32.lt_iff_toInt_lt] at a ⊢
                apply Classical.byContradiction
                intro b
                exact cd ⟨Int32.le_iff_toInt_le.mpr (by omega), Int32.le_iff_toInt_le.mpr (by omega)⟩
          · unfold lp_X8_takes_12
            rw [p4, p7, hx, nI_clamp (by omega), nI_clamp (by omega), if_neg nL, if_neg n66, if_neg cd]
            exact ey0
      · rw [if_neg cL] at ca
        apply stop
        · unfold lp_X6_parsedDigits_4
          rw [if_neg n6, p6, ca, if_pos (by decide)]
          exact ex0
        · unfold lp_X8_takes_12
          rw [p4, p7, hx, nI_clamp (by omega), nI_clamp (by omega), if_pos (show nI L ≤ nI (p0 + k) by rw [nI_leI (by omega) (by omega)]; omega)]
          exact ey0
theorem dg_ps {L p i : Nat} {m y : Mu} (h : PS L p m y) : ∃ p' m' y', PS L p' m' y' ∧ FrC m m' ∧ FrY y y' ∧ p ≤ p' ∧ (∀ z, z ≠ i → y'.1 13 z = y.1 13 z) ∧ ((sp_X6_parsedDigits m = (-1, m') ∧ sp_X8_takes y i = (0, y')) ∨ ∃ v, v < 1000000 ∧ sp_X6_parsedDigits m = (nI v, m') ∧ sp_X8_takes y i = (1, y') ∧ y'.1 13 i = nI v) := by
  have h0 : PS L (p + 0) m (pM y 13 i 0) := ps_mv h h.1 frC_r frY_13 h.2.2.2.2.2.1 (by rw [row_n _ (by omega)]; exact h.2.2.2.2.2.2)
  have hp := h.1
  have hL := h.2.1
  obtain ⟨k', v', m', y', q1, q2, q3, q4, q5, q6, q7, q8, q9, q10⟩ := dg_lp (x := y) (μ0 := m) (L := L) (p0 := p) (i := i) (by rw [h.2.2.2.2.2.2, nI_clamp (by omega)]) 7 0 0 m (pM y 13 i 0) rfl (by omega) h0 (by decide) (row_at _)
  refine ⟨p + k', m', y', q6, q9, frY_t frY_13 q10, Nat.le_add_right _ _, fun z hz => (q8 z hz).trans (row_k _ hz), ?_⟩
  have hv6 : v' < 10 ^ 6 := Nat.lt_of_lt_of_le q3 (Nat.pow_le_pow_right (by omega) q2)
  by_cases z : k' = 0
  · rw [if_pos z] at q4 q5
    exact Or.inl ⟨q4, q5⟩
  · rw [if_neg z] at q4 q5
    exact Or.inr ⟨v', hv6, q4, q5, q7⟩
