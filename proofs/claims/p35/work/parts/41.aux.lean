/-! ===== small numbers for the law's methods ===== -/
section AX
variable {g : Nat → Int32} {t k : Nat} {w lo hi y : Int32}
theorem iv_of (h : Tb g t 4) (h0 : rI g t 0 ≤ w.toInt) (h3 : w.toInt ≤ rI g t 3) : Iv (dI g t) (rI g t) w.toInt (sp_X5_temperatureFor g t w.toInt64).toInt := by
  rcases tf_val h (v := w.toInt64) with q | q
  · rw [Int32.toInt_toInt64] at q
    exact absurd ⟨h0, h3⟩ q.2
  · rw [Int32.toInt_toInt64] at q
    exact q.2.2
theorem rat_nd (h : Tb g t 4) (hk : k < 4) : sp_X5_ratioAt g t (g (tD t k)) = g (tR t k) := by
  obtain ⟨h1, h2, -, -⟩ := (tb_asc h).d0 hk
  exact Int32.toInt_inj.mp ((rat_val h h1 h2).trans (ratI_at (tb_asc h) hk))
theorem inv_nd (h : Tb g t 4) (hk : k < 4) : sp_X5_temperatureFor g t (g (tR t k)).toInt64 = g (tD t k) := by
  obtain ⟨-, -, h3, h4⟩ := (tb_asc h).d0 hk
  exact Int32.toInt_inj.mp (iv_uniq (iv_of h h3 h4) (iv_node (tb_asc h) hk))
theorem tmodI {a b : Int} (ha : 0 ≤ a) (hb : 0 < b) : a.tmod b = a % b ∧ 0 ≤ a % b ∧ a % b < b := ⟨Int.tmod_eq_emod_of_nonneg ha, Int.emod_nonneg _ (by omega), Int.emod_lt_of_pos _ hb⟩
/-- the rest of a division, as the rows have it -/
theorem rem_e {x d : Int32} (hx : 0 ≤ x.toInt) (hd : 0 < d.toInt) : (x - x / d * d).toInt = x.toInt % d.toInt := by
  have h1 := x.toInt_lt
  have h2 := d.toInt_lt
  have q0 : 0 ≤ x.toInt / d.toInt := Int.ediv_nonneg hx (by omega)
  have q1 : x.toInt / d.toInt ≤ x.toInt := Int.ediv_le_self _ hx
  have e1 : (x / d).toInt = x.toInt / d.toInt := by rw [Int32.toInt_div, Int.tdiv_eq_ediv_of_nonneg hx, I_of _ (by omega)]
  have m1 : x.toInt / d.toInt * d.toInt ≤ x.toInt := Int.ediv_mul_le _ (by omega)
  have m0 : 0 ≤ x.toInt / d.toInt * d.toInt := Int.mul_nonneg q0 (by omega)
  have e2 : (x / d * d).toInt = x.toInt / d.toInt * d.toInt := by rw [Int32.toInt_mul, e1, I_of _ (by omega)]
  rw [Int32.toInt_sub, e2, I_of _ (by omega)]
  have := Int.emod_add_mul_ediv x.toInt d.toInt
  rw [Int.mul_comm] at this
  omega
theorem rem_b {x d : Int32} (hx : 0 ≤ x.toInt) (hd : 0 < d.toInt) : 0 ≤ (x - x / d * d).toInt ∧ (x - x / d * d).toInt < d.toInt := by
  rw [rem_e hx hd]
  exact ⟨Int.emod_nonneg _ (by omega), Int.emod_lt_of_pos _ hd⟩
theorem div_b {x d : Int32} (hx : 0 ≤ x.toInt) (hd : 0 < d.toInt) : 0 ≤ (x / d).toInt ∧ (x / d).toInt ≤ x.toInt := by
  have h1 := x.toInt_lt
  have q0 : 0 ≤ x.toInt / d.toInt := Int.ediv_nonneg hx (by omega)
  have q1 : x.toInt / d.toInt ≤ x.toInt := Int.ediv_le_self _ hx
  rw [Int32.toInt_div, Int.tdiv_eq_ediv_of_nonneg hx, I_of _ (by omega)]
  exact ⟨q0, q1⟩
theorem rem_nz (h : lo.toInt ≤ hi.toInt) (h1 : -1000000 ≤ lo.toInt) (h2 : hi.toInt ≤ 1000000) : (hi - lo + 1).toInt = hi.toInt - lo.toInt + 1 ∧ ¬ hi - lo + 1 = 0 := by
  have e : (hi - lo).toInt = hi.toInt - lo.toInt := by rw [Int32.toInt_sub, I_of _ (by omega)]
  have e2 : (hi - lo + 1).toInt = hi.toInt - lo.toInt + 1 := by rw [Int32.toInt_add, e, show (1 : Int32).toInt = 1 by decide, I_of _ (by omega)]
  refine ⟨e2, fun q => ?_⟩
  rw [q, show (0 : Int32).toInt = 0 by decide] at e2
  omega
theorem rem_rg (h : lo.toInt ≤ hi.toInt) (h1 : -1000000 ≤ lo.toInt) (h2 : hi.toInt ≤ 1000000) (hy : 0 ≤ y.toInt) : lo.toInt ≤ (lo + (y - y / (hi - lo + 1) * (hi - lo + 1))).toInt ∧ (lo + (y - y / (hi - lo + 1) * (hi - lo + 1))).toInt ≤ hi.toInt := by
  obtain ⟨e, -⟩ := rem_nz h h1 h2
  have b := rem_b (x := y) (d := hi - lo + 1) hy (by omega)
  rw [Int32.toInt_add, I_of _ (by omega)]
  omega
end AX
