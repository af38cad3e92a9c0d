/-! ===== class and reference: what of the one is what of the other ===== -/
/-- the tables and the settings, class g, reference s -/
def SimT (g s : Nat → Int32) : Prop := g 0 = s 0 ∧ g 1 = s 1 ∧ (∀ k, k < 7 → g (3 + k) = s (2 + k)) ∧ ∀ k, k < 75 → g (10 + k) = s (10 + k)
theorem le64 (a b : Int32) : a.toInt64 ≤ b.toInt64 ↔ a ≤ b := by
  rw [Int64.le_iff_toInt_le, Int32.le_iff_toInt_le, Int32.toInt_toInt64, Int32.toInt_toInt64]
theorem nI_cl {a : Int32} (h : (0 : Int32) ≤ a) : nI a.toNatClampNeg = a := by
  obtain ⟨j, hj, rfl⟩ := nI_of (x := a) (fun q => by rw [Int32.le_iff_toInt_le] at h; rw [Int32.lt_iff_toInt_lt] at q; omega)
  rw [nI_clamp hj]
theorem ni_eq {N : Nat} {x : Int32} (h : ni N x) : nI x.toNatClampNeg = x := h.1.symm
theorem tabAt {g : Nat → Int32} (h : ni 4 (g 0)) (a : Int32) : sp_X4_tableAt g a = if 0 ≤ a ∧ a ≤ g 0 - 1 then some a.toNatClampNeg else none := by
  have h2 := h.2
  by_cases c : 0 ≤ a ∧ a ≤ g 0 - 1
  · rw [if_pos c]
    obtain ⟨c1, c2⟩ := ni_of h (by decide) c
    unfold sp_X4_tableAt
    rw [if_neg (by rw [Int32.lt_iff_toInt_lt]; have := c.1; rw [Int32.le_iff_toInt_le] at this; omega), if_neg (by rw [c1, h.1, nI_leI (by omega) (by omega)]; omega), if_neg (by rw [c1, show (3 : Int32) = nI 3 from rfl, nI_leI (by omega) (by omega)]; omega)]
  · rw [if_neg c]
    unfold sp_X4_tableAt
    by_cases c1 : a < 0
    · rw [if_pos c1]
    · rw [if_neg c1]
      by_cases c2 : g 0 ≤ a
      · rw [if_pos c2]
      · exfalso
        apply c
        obtain ⟨j, hj, rfl⟩ := nI_of (x := a) c1
        rw [h.1] at c2 ⊢
        rw [nI_leI (by omega) hj] at c2
        refine ⟨by rw [show (0 : Int32) = nI 0 from rfl, nI_leI (by omega) hj]; omega, ?_⟩
        rw [show nI (g 0).toNatClampNeg - 1 = nI ((g 0).toNatClampNeg - 1) from pk_sub (b := 1) (by omega), nI_leI hj (by omega)]
        omega
