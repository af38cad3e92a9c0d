/-! ===== class and reference: what of the one is what of the other ===== -/
/-- the tables and the settings, class g, reference s -/
def SimT (g s : Nat → Int32) : Prop := g 0 = s 0 ∧ g 1 = s 1 ∧ (∀ k, k < 7 → g (3 + k) = s (2 + k)) ∧ ∀ k, k < 75 → g (10 + k) = s (10 + k)
theorem le64 (a b : Int32) : a.toInt64 ≤ b.toInt64 ↔ a ≤ b := by
  rw [Int64.le_iff_toInt_le, Int32.le_iff_toInt_le, Int32.toInt_toInt64, Int32.toInt_toInt64]
theorem nI_cl {a : Int32} (h : (0 : Int32) ≤ a) : nI a.toNatClampNeg = a := by
  obtain ⟨j, hj, rfl⟩ := nI_of (x := a) (fun q => by rw [Int32.le_iff_toInt_le] at h; rw [Int32.lt_iff_toInt_lt] at q; omega)
  rw [nI_clamp hj]
theorem ni_eq {N : Nat} {x : Int32} (h : ni N x) : nI x.toNatClampNeg = x := h.1.symm
theorem tabAt {g : Nat → Int32} (h : ni 4 (g 0)) (a : Int32) : sp_X4_tableAt g a = if 0 ≤ a ∧ a ≤ g 0 - 1 then some a.toNatClampNeg else none := by
  have h2 := h.2
  by_cases c : 0 ≤ a ∧ a ≤ g 0 - 1
  · rw [if_pos c]
    obtain ⟨c1, c2⟩ := ni_of h (by decide) c
    unfold sp_X4_tableAt
    rw [if_neg (by rw [Int32.lt_iff_toInt_lt]; have := c.1; rw [Int32.le_iff_toInt_le] at this; omega), if_neg (by rw [c1, h.1, nI_leI (by omega) (by omega)]; omega), if_neg (by rw [c1, show (3 : Int32) = nI 3 from rfl, nI_leI (by omega) (by omega)]; omega)]
  · rw [if_neg c]
    unfold sp_X4_tableAt
    by_cases c1 : a < 0
    · rw [if_pos c1]
    · rw [if_neg c1]
      by_cases c2 : g 0 ≤ a
      · rw [if_pos c2]
      · exfalso
        apply c
        obtain ⟨j, hj, rfl⟩ := nI_of (x := a) c1
        rw [h.1] at c2 ⊢
        rw [nI_leI (by omega) hj] at c2
        refine ⟨by rw [show (0 : Int32) = nI 0 from rfl, nI_leI (by omega) hj]; omega, ?_⟩
        rw [show nI (g 0).toNatClampNeg - 1 = nI ((g 0).toNatClampNeg - 1) from pk_sub (b := 1) (by omega), nI_leI hj (by omega)]
        omega
theorem i2l (w : Int32) : (0 : Int64) ≤ w.toInt64 ∧ w.toInt64 ≤ (1 : Int64) ↔ (0 : Int32) ≤ w ∧ w ≤ (1 : Int32) := by
  rw [show (0 : Int64) = (0 : Int32).toInt64 from rfl, show (1 : Int64) = (1 : Int32).toInt64 from rfl, le64, le64]
theorem sT_N {g s : Nat → Int32} (h : SimT g s) {t : Nat} (ht : t < 3) : g (10 + 25 * t) = s (10 + 25 * t) := by
  have q := h.2.2.2 (25 * t) (by omega)
  exact q
theorem sT_D {g s : Nat → Int32} (h : SimT g s) {t k : Nat} (ht : t < 3) (hk : k < 12) : g (11 + 25 * t + k) = s (11 + 25 * t + k) := by
  have q := h.2.2.2 (1 + 25 * t + k) (by omega)
  rw [show 10 + (1 + 25 * t + k) = 11 + 25 * t + k by omega] at q
  exact q
theorem sT_R {g s : Nat → Int32} (h : SimT g s) {t k : Nat} (ht : t < 3) (hk : k < 12) : g (23 + 25 * t + k) = s (23 + 25 * t + k) := by
  have q := h.2.2.2 (13 + 25 * t + k) (by omega)
  rw [show 10 + (13 + 25 * t + k) = 23 + 25 * t + k by omega] at q
  exact q
theorem tmpOf {g : Nat → Int32} {t : Nat} {b : Int32} (h0 : ¬ b < 0) (h1 : ¬ (12 : Int32) ≤ b) : sp_X5_temperatureOf g t b = g (11 + 25 * t + b.toNatClampNeg) := by
  unfold sp_X5_temperatureOf
  rw [if_neg h0, if_neg h1]
  rfl
theorem ratOf {g : Nat → Int32} {t : Nat} {b : Int32} (h0 : ¬ b < 0) (h1 : ¬ (12 : Int32) ≤ b) : sp_X5_ratioOf g t b = g (23 + 25 * t + b.toNatClampNeg) := by
  unfold sp_X5_ratioOf
  rw [if_neg h0, if_neg h1]
  rfl
/-- what nodeAt answers -/
theorem eq_nodeAt {g s : Nat → Int32} (hT : SimT g s) (hI : RI s) (a b w : Int32) : sp_X7_nodeAt g a b w = sp_X8_nodeAt s a b w := by
  unfold sp_X7_nodeAt sp_X8_nodeAt
  rw [tabAt (by rw [hT.1]; exact hI.1), hT.1]
  by_cases c : 0 ≤ a ∧ a ≤ s 0 - 1
  · rw [if_pos c, if_pos c]
    have ha := (ni_of hI.1 (by decide) c).2
    have h4 := hI.1.2
    have ht : a.toNatClampNeg < 3 := by omega
    show (if b < 0 then _ else _) = _
    by_cases c1 : b < 0
    · rw [if_pos c1, if_pos c1]
    · rw [if_neg c1, if_neg c1]
      by_cases c2 : (0 : Int32) ≤ w ∧ w ≤ (1 : Int32)
      · rw [if_pos ((i2l w).mpr c2), if_pos c2]
        have hN := hI.2.2.1 _ ht
        rw [← hN.1, nI_cl c2.1]
        unfold tN
        rw [sT_N hT ht]
        by_cases c3 : b < s (10 + 25 * a.toNatClampNeg)
        · rw [if_pos c3, if_pos c3]
          obtain ⟨j, hj, rfl⟩ := nI_of (x := b) c1
          have h13 := hN.2
          have hb : j < 12 := by
            rw [hN.1, Int32.lt_iff_toInt_lt, nI_toInt hj, nI_toInt (by omega)] at c3
            omega
          have c4 : ¬ (12 : Int32) ≤ nI j := by rw [show (12 : Int32) = nI 12 from rfl, nI_leI (by omega) hj]; omega
          rw [tmpOf c1 c4, ratOf c1 c4, nI_clamp hj, sT_D hT ht hb, sT_R hT ht hb]
        · rw [if_neg c3, if_neg c3]
      · rw [if_neg (fun q => c2 ((i2l w).mp q)), if_neg c2]
  · rw [if_neg c, if_neg c]
    rfl
