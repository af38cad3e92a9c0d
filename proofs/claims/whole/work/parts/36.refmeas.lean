/-! ===== the reference: measuring; what its numbers keep to ===== -/
/-- a table's ratios rise, and keep to their range -/
def RQ (g : Nat → Int32) (t : Nat) : Prop := (∀ k, k + 1 < rN g t → (g (23 + 25 * t + k)).toInt ≤ (g (23 + 25 * t + (k + 1))).toInt) ∧ ∀ k, k < rN g t → 1 ≤ (g (23 + 25 * t + k)).toInt ∧ (g (23 + 25 * t + k)).toInt ≤ 10000000
theorem L_of (n : Int) (h : -9223372036854775808 ≤ n ∧ n < 9223372036854775808) : n.bmod (2 ^ 64) = n := by
  rw [Int.bmod_eq_of_le] <;> omega
theorem I_of (n : Int) (h : -2147483648 ≤ n ∧ n < 2147483648) : n.bmod (2 ^ 32) = n := by
  rw [Int.bmod_eq_of_le] <;> omega
/-- what is between two nodes -/
theorem itp {p q a b w : Int32} (hp : 1 ≤ p.toInt) (hq : q.toInt ≤ 10000000) (hpq : p.toInt ≤ q.toInt) (ha : -200000 ≤ a.toInt) (hb : b.toInt ≤ 850000) (hw1 : a.toInt ≤ w.toInt) (hw2 : w.toInt ≤ b.toInt) (hab : a.toInt < b.toInt) : (p + (((q - p).toInt64 * (w - a).toInt64) / ((b - a).toInt64)).toInt32).toInt = p.toInt + (q.toInt - p.toInt) * (w.toInt - a.toInt) / (b.toInt - a.toInt) ∧ 0 ≤ (q.toInt - p.toInt) * (w.toInt - a.toInt) / (b.toInt - a.toInt) ∧ (q.toInt - p.toInt) * (w.toInt - a.toInt) / (b.toInt - a.toInt) ≤ q.toInt - p.toInt := by
  have e1 : (q - p).toInt = q.toInt - p.toInt := by rw [Int32.toInt_sub, I_of _ (by omega)]
  have e2 : (w - a).toInt = w.toInt - a.toInt := by rw [Int32.toInt_sub, I_of _ (by omega)]
  have e3 : (b - a).toInt = b.toInt - a.toInt := by rw [Int32.toInt_sub, I_of _ (by omega)]
  generalize hX : q.toInt - p.toInt = X at *
  generalize hY : w.toInt - a.toInt = Y at *
  generalize hZ : b.toInt - a.toInt = Z at *
  have hXY : 0 ≤ X * Y := Int.mul_nonneg (by omega) (by omega)
  have hXY2 : X * Y ≤ 10000000 * 1050000 := Int.mul_le_mul (by omega) (by omega) (by omega) (by omega)
  have hd0 : 0 ≤ X * Y / Z := Int.ediv_nonneg hXY (by omega)
  have hd1 : X * Y / Z ≤ X := by
    have h1 : X * Y ≤ X * Z := Int.mul_le_mul_of_nonneg_left (by omega) (by omega)
    have h2 : X * Y / Z ≤ X * Z / Z := Int.ediv_le_ediv (by omega) h1
    rwa [Int.mul_ediv_cancel _ (by omega)] at h2
  have m : ((q - p).toInt64 * (w - a).toInt64).toInt = X * Y := by
    rw [Int64.toInt_mul, Int32.toInt_toInt64, Int32.toInt_toInt64, e1, e2, L_of _ (by omega)]
  have d : (((q - p).toInt64 * (w - a).toInt64) / ((b - a).toInt64)).toInt = X * Y / Z := by
    rw [Int64.toInt_div, m, Int32.toInt_toInt64, e3, Int.tdiv_eq_ediv_of_nonneg hXY, L_of _ (by omega)]
  have d2 : (((q - p).toInt64 * (w - a).toInt64) / ((b - a).toInt64)).toInt32.toInt = X * Y / Z := by
    rw [Int64.toInt_toInt32, d, I_of _ (by omega)]
  refine ⟨?_, hd0, hd1⟩
  rw [Int32.toInt_add, d2, I_of _ (by omega)]
theorem rat_bd_lp {g : Nat → Int32} {t : Nat} {w : Int32} (hT : RT g t) (hQ : RQ g t) (h1 : w ≤ rL g t) : ∀ (f k : Nat), k + f = rN g t → k + 1 < rN g t → (g (11 + 25 * t + k)).toInt ≤ w.toInt → 1 ≤ (lp_X8_ratioAt_2 g t w f k).toInt ∧ (lp_X8_ratioAt_2 g t w f k).toInt ≤ 10000000 := by
  intro f
  induction f with
  | zero => intro k e hk _; omega
  | succ f ih =>
    intro k e hk hw
    unfold lp_X8_ratioAt_2
    by_cases c : w ≤ g (11 + 25 * t + (k + 1))
    · rw [if_pos c]
      by_cases e2 : g (11 + 25 * t + (k + 1)) = w
      · rw [if_pos e2]
        exact hQ.2 (k + 1) hk
      · rw [if_neg e2]
        have ha := hT.2 k (by omega)
        have hb := hT.2 (k + 1) hk
        have hp := hQ.2 k (by omega)
        have hq := hQ.2 (k + 1) hk
        have hpq := hQ.1 k hk
        have hab := hT.1 k hk
        rw [Int32.lt_iff_toInt_lt] at hab
        rw [Int32.le_iff_toInt_le] at c
        obtain ⟨h, h0, h2⟩ := itp hp.1 hq.2 hpq ha.1 hb.2 hw c hab
        rw [h]
        constructor <;> omega
    · rw [if_neg c]
      refine ih (k + 1) (by omega) (rt_adv h1 c hk) ?_
      rw [Int32.le_iff_toInt_le] at c
      omega
theorem rat_bd {g : Nat → Int32} {t : Nat} {w : Int32} (hT : RT g t) (hQ : RQ g t) (hn : 2 ≤ rN g t) (h0 : (g (11 + 25 * t + 0)).toInt ≤ w.toInt) (h1 : w ≤ rL g t) : 1 ≤ (sp_X8_ratioAt g t w).toInt ∧ (sp_X8_ratioAt g t w).toInt ≤ 10000000 := rat_bd_lp hT hQ h1 _ 0 (by omega) (by omega) h0
/-- what holds of the settings; of a sensor that there is -/
def RG (g : Nat → Int32) : Prop := RI g ∧ (∀ t, t < 3 → RT g t ∧ RQ g t) ∧ (10000 ≤ (g 2).toInt ∧ (g 2).toInt ≤ 1000000) ∧ (100 ≤ (g 3).toInt ∧ (g 3).toInt ≤ 5000) ∧ (100 ≤ (g 4).toInt ∧ (g 4).toInt ≤ 5000) ∧ 8 ≤ (g 5).toInt ∧ (g 5).toInt ≤ 24
def oN (g : Nat → Int32) (n : Nat) : Nat := (g (85 + 29 * n + 0)).toNatClampNeg
def RS (g : Nat → Int32) (n : Nat) : Prop := n < 6 ∧ 2 ≤ rN g (oN g n) ∧ ((g (11 + 25 * (oN g n) + 0)).toInt ≤ (g (85 + 29 * n + 4)).toInt ∧ (g (85 + 29 * n + 4)).toInt ≤ (rL g (oN g n)).toInt) ∧ (1000 ≤ (g (85 + 29 * n + 2)).toInt ∧ (g (85 + 29 * n + 2)).toInt ≤ 2000000) ∧ (1000 ≤ (g (85 + 29 * n + 3)).toInt ∧ (g (85 + 29 * n + 3)).toInt ≤ 2000000) ∧ 0 ≤ (g (85 + 29 * n + 9)).toInt ∧ (g (85 + 29 * n + 9)).toInt ≤ 5000
def sp_X8_resistance (g : Nat → Int32)  (n : Nat) (w : Int32) : Int64 :=
  (((g (85 + 29 * n + 2)).toInt64) * ((sp_X8_ratioAt g  (oN g n) w).toInt64)) / 1000000
set_option maxHeartbeats 4000000 in
set_option maxRecDepth 100000 in
theorem k_X8_resistance (l : Launch) (E : En) (μ : Mu)  (n : Nat) (w : Int32) (hG : RG (μ.1 8)) (hS : RS (μ.1 8) n) (hle : w ≤ rL (μ.1 8) (oN (μ.1 8) n)) : MtL l yX8_resistance cX8_resistance 3 ({ frames := 2, cells := 0, slots := 0, locals := 47 }) [.ref (E.1 (232)), .int (nI n), .int (w)] E μ ((sp_X8_resistance (μ.1 8) n w), μ) := by
  refine mt_of (by decide +kernel) (Nat.le_of_ble_eq_true rfl) ?_
  intro p e s m args below meth c ls hf hr hlocks hl hw
  have hx := hf.1
  have hb := hf.2.1
  have hl : lv_has ls 3 [(0, .ref (E.1 (232))), (1, .int (nI n)), (2, .int (w))] := hl
  have hI := hG.1
  have hn := hS.1
  have hob : oN (μ.1 8) n < 3 := (hI.2.2.2 n hn).1.2
  refine lv_aload_n hx hb dX8_resistance_0 rfl (lv_at hl 0 rfl) ?_
  refine lv_iload_n hx hb dX8_resistance_1 rfl (lv_at hl 1 rfl) ?_
  refine lv_iconst (v := 2) hx hb dX8_resistance_2 (by decide) ?_
  refine c_iR hw (run_V (As := [.int (nI n), .int 2]) (rest := []) (np := 2) hf hw (kn_X8_of l E _  n 2  (show n < 6 from hn) (show 2 < 29 from (by decide))) ⟨gl_V q227 q228 q229 q5 q230, by decide +kernel⟩ ⟨rfl, rfl, Nat.le_of_ble_eq_true rfl, Nat.le_of_ble_eq_true rfl⟩ (by decide) (c_R E _) rfl rfl hl.1 rfl (Nat.le_of_ble_eq_true rfl) dX8_resistance_3 ⟨Nat.zero_le _, Nat.zero_le _⟩) (fun H locs hw => ?_)
  refine lv_i2l hx hb dX8_resistance_6 rfl ?_
  refine lv_aload_n hx hb dX8_resistance_7 rfl (lv_at hl 0 rfl) ?_
  refine lv_aload_n hx hb dX8_resistance_8 rfl (lv_at hl 0 rfl) ?_
  refine lv_iload_n hx hb dX8_resistance_9 rfl (lv_at hl 1 rfl) ?_
  refine lv_iconst (v := 0) hx hb dX8_resistance_10 (by decide) ?_
  refine c_iR hw (run_V (As := [.int (nI n), .int 0]) (rest := [.ref (E.1 (232)), .long ((μ.1 8 (85 + 29 * n + 2)).toInt64)]) (np := 2) hf hw (kn_X8_of l E _  n 0  (show n < 6 from hn) (show 0 < 29 from (by decide))) ⟨gl_V q227 q228 q229 q5 q230, by decide +kernel⟩ ⟨rfl, rfl, Nat.le_of_ble_eq_true rfl, Nat.le_of_ble_eq_true rfl⟩ (by decide) (c_R E _) rfl rfl hl.1 rfl (Nat.le_of_ble_eq_true rfl) dX8_resistance_11 ⟨Nat.zero_le _, Nat.zero_le _⟩) (fun H locs hw => ?_)
  have hb1 := (hI.2.2.2 n hn).1.2
  refine fold_i (show μ.1 8 (85 + 29 * n + 0) = nI (oN (μ.1 8) n) from (hI.2.2.2 n hn).1.1) ?_
  refine lv_iload_n hx hb dX8_resistance_14 rfl (lv_at hl 2 rfl) ?_
  refine c_iR hw (run_V (As := [.int (nI (oN (μ.1 8) n)), .int (w)]) (rest := [.long ((μ.1 8 (85 + 29 * n + 2)).toInt64)]) (np := 2) hf hw (k_X8_ratioAt l E _  (oN (μ.1 8) n) w  (show oN (μ.1 8) n < 3 from hob) hI (hG.2.1 _ hob).1 hS.2.1 hle) ⟨gl_V q271 q272 q273 q5 q274, by decide +kernel⟩ ⟨rfl, rfl, Nat.le_of_ble_eq_true rfl, Nat.le_of_ble_eq_true rfl⟩ (by decide) (c_R E _) rfl rfl hl.1 rfl (Nat.le_of_ble_eq_true rfl) dX8_resistance_15 ⟨Nat.zero_le _, Nat.zero_le _⟩) (fun H locs hw => ?_)
  refine lv_i2l hx hb dX8_resistance_18 rfl ?_
  refine lv_lmul hx hb dX8_resistance_19 ?_
  refine lv_ldc2 hx hb hf.2.2.2.1 (hf.2.2.2.2 _ q507) dX8_resistance_20 ?_
  refine lv_ldiv hx hb dX8_resistance_23 (by decide) ?_
  exact e_l hf hr hlocks hw (congrArg (fun z => (z, μ)) rfl) dX8_resistance_24
