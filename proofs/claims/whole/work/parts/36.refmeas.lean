/-! ===== the reference: measuring; what its numbers keep to ===== -/
/-- a table's ratios rise, and keep to their range -/
def RQ (g : Nat → Int32) (t : Nat) : Prop := (∀ k, k + 1 < rN g t → (g (23 + 25 * t + k)).toInt ≤ (g (23 + 25 * t + (k + 1))).toInt) ∧ ∀ k, k < rN g t → 1 ≤ (g (23 + 25 * t + k)).toInt ∧ (g (23 + 25 * t + k)).toInt ≤ 10000000
theorem L_of (n : Int) (h : -9223372036854775808 ≤ n ∧ n < 9223372036854775808) : n.bmod (2 ^ 64) = n := by
  rw [Int.bmod_eq_of_le] <;> omega
theorem I_of (n : Int) (h : -2147483648 ≤ n ∧ n < 2147483648) : n.bmod (2 ^ 32) = n := by
  rw [Int.bmod_eq_of_le] <;> omega
/-- what is between two nodes -/
theorem itp {p q a b w : Int32} (hp : 1 ≤ p.toInt) (hq : q.toInt ≤ 10000000) (hpq : p.toInt ≤ q.toInt) (ha : -200000 ≤ a.toInt) (hb : b.toInt ≤ 850000) (hw1 : a.toInt ≤ w.toInt) (hw2 : w.toInt ≤ b.toInt) (hab : a.toInt < b.toInt) : (p + (((q - p).toInt64 * (w - a).toInt64) / ((b - a).toInt64)).toInt32).toInt = p.toInt + (q.toInt - p.toInt) * (w.toInt - a.toInt) / (b.toInt - a.toInt) ∧ 0 ≤ (q.toInt - p.toInt) * (w.toInt - a.toInt) / (b.toInt - a.toInt) ∧ (q.toInt - p.toInt) * (w.toInt - a.toInt) / (b.toInt - a.toInt) ≤ q.toInt - p.toInt := by
  have e1 : (q - p).toInt = q.toInt - p.toInt := by rw [Int32.toInt_sub, I_of _ (by omega)]
  have e2 : (w - a).toInt = w.toInt - a.toInt := by rw [Int32.toInt_sub, I_of _ (by omega)]
  have e3 : (b - a).toInt = b.toInt - a.toInt := by rw [Int32.toInt_sub, I_of _ (by omega)]
  generalize hX : q.toInt - p.toInt = X at *
  generalize hY : w.toInt - a.toInt = Y at *
  generalize hZ : b.toInt - a.toInt = Z at *
  have hXY : 0 ≤ X * Y := Int.mul_nonneg (by omega) (by omega)
  have hXY2 : X * Y ≤ 10000000 * 1050000 := Int.mul_le_mul (by omega) (by omega) (by omega) (by omega)
  have hd0 : 0 ≤ X * Y / Z := Int.ediv_nonneg hXY (by omega)
  have hd1 : X * Y / Z ≤ X := by
    have h1 : X * Y ≤ X * Z := Int.mul_le_mul_of_nonneg_left (by omega) (by omega)
    have h2 : X * Y / Z ≤ X * Z / Z := Int.ediv_le_ediv (by omega) h1
    rwa [Int.mul_ediv_cancel _ (by omega)] at h2
  have m : ((q - p).toInt64 * (w - a).toInt64).toInt = X * Y := by
    rw [Int64.toInt_mul, Int32.toInt_toInt64, Int32.toInt_toInt64, e1, e2, L_of _ (by omega)]
  have d : (((q - p).toInt64 * (w - a).toInt64) / ((b - a).toInt64)).toInt = X * Y / Z := by
    rw [Int64.toInt_div, m, Int32.toInt_toInt64, e3, Int.tdiv_eq_ediv_of_nonneg hXY, L_of _ (by omega)]
  have d2 : (((q - p).toInt64 * (w - a).toInt64) / ((b - a).toInt64)).toInt32.toInt = X * Y / Z := by
    rw [Int64.toInt_toInt32, d, I_of _ (by omega)]
  refine ⟨?_, hd0, hd1⟩
  rw [Int32.toInt_add, d2, I_of _ (by omega)]
theorem rat_bd_lp {g : Nat → Int32} {t : Nat} {w : Int32} (hT : RT g t) (hQ : RQ g t) (h1 : w ≤ rL g t) : ∀ (f k : Nat), k + f = rN g t → k + 1 < rN g t → (g (11 + 25 * t + k)).toInt ≤ w.toInt → 1 ≤ (lp_X8_ratioAt_2 g t w f k).toInt ∧ (lp_X8_ratioAt_2 g t w f k).toInt ≤ 10000000 := by
  intro f
  induction f with
  | zero => intro k e hk _; omega
  | succ f ih =>
    intro k e hk hw
    unfold lp_X8_ratioAt_2
    by_cases c : w ≤ g (11 + 25 * t + (k + 1))
    · rw [if_pos c]
      by_cases e2 : g (11 + 25 * t + (k + 1)) = w
      · rw [if_pos e2]
        exact hQ.2 (k + 1) hk
      · rw [if_neg e2]
        have ha := hT.2 k (by omega)
        have hb := hT.2 (k + 1) hk
        have hp := hQ.2 k (by omega)
        have hq := hQ.2 (k + 1) hk
        have hpq := hQ.1 k hk
        have hab := hT.1 k hk
        rw [Int32.lt_iff_toInt_lt] at hab
        rw [Int32.le_iff_toInt_le] at c
        obtain ⟨h, h0, h2⟩ := itp hp.1 hq.2 hpq ha.1 hb.2 hw c hab
        rw [h]
        constructor <;> omega
    · rw [if_neg c]
      refine ih (k + 1) (by omega) (rt_adv h1 c hk) ?_
      rw [Int32.le_iff_toInt_le] at c
      omega
theorem rat_bd {g : Nat → Int32} {t : Nat} {w : Int32} (hT : RT g t) (hQ : RQ g t) (hn : 2 ≤ rN g t) (h0 : (g (11 + 25 * t + 0)).toInt ≤ w.toInt) (h1 : w ≤ rL g t) : 1 ≤ (sp_X8_ratioAt g t w).toInt ∧ (sp_X8_ratioAt g t w).toInt ≤ 10000000 := rat_bd_lp hT hQ h1 _ 0 (by omega) (by omega) h0
/-- what holds of the settings; of a sensor that there is -/
def RG (g : Nat → Int32) : Prop := RI g ∧ (∀ t, t < 3 → RT g t ∧ RQ g t) ∧ (10000 ≤ (g 2).toInt ∧ (g 2).toInt ≤ 1000000) ∧ (100 ≤ (g 3).toInt ∧ (g 3).toInt ≤ 5000) ∧ (100 ≤ (g 4).toInt ∧ (g 4).toInt ≤ 5000) ∧ 8 ≤ (g 5).toInt ∧ (g 5).toInt ≤ 24
def oN (g : Nat → Int32) (n : Nat) : Nat := (g (85 + 29 * n + 0)).toNatClampNeg
def RS (g : Nat → Int32) (n : Nat) : Prop := n < 6 ∧ 2 ≤ rN g (oN g n) ∧ ((g (11 + 25 * (oN g n) + 0)).toInt ≤ (g (85 + 29 * n + 4)).toInt ∧ (g (85 + 29 * n + 4)).toInt ≤ (rL g (oN g n)).toInt) ∧ (1000 ≤ (g (85 + 29 * n + 2)).toInt ∧ (g (85 + 29 * n + 2)).toInt ≤ 2000000) ∧ (1000 ≤ (g (85 + 29 * n + 3)).toInt ∧ (g (85 + 29 * n + 3)).toInt ≤ 2000000) ∧ 0 ≤ (g (85 + 29 * n + 9)).toInt ∧ (g (85 + 29 * n + 9)).toInt ≤ 5000
def sp_X8_resistance (g : Nat → Int32)  (n : Nat) (w : Int32) : Int64 :=
  (((g (85 + 29 * n + 2)).toInt64) * ((sp_X8_ratioAt g  (oN g n) w).toInt64)) / 1000000
set_option maxHeartbeats 4000000 in
set_option maxRecDepth 100000 in
theorem k_X8_resistance (l : Launch) (E : En) (μ : Mu)  (n : Nat) (w : Int32) (hG : RG (μ.1 8)) (hS : RS (μ.1 8) n) (hle : w ≤ rL (μ.1 8) (oN (μ.1 8) n)) : MtL l yX8_resistance cX8_resistance 3 ({ frames := 2, cells := 0, slots := 0, locals := 47 }) [.ref (E.1 (232)), .int (nI n), .int (w)] E μ ((sp_X8_resistance (μ.1 8) n w), μ) := by
  refine mt_of (by decide +kernel) (Nat.le_of_ble_eq_true rfl) ?_
  intro p e s m args below meth c ls hf hr hlocks hl hw
  have hx := hf.1
  have hb := hf.2.1
  have hl : lv_has ls 3 [(0, .ref (E.1 (232))), (1, .int (nI n)), (2, .int (w))] := hl
  have hI := hG.1
  have hn := hS.1
  have hob : oN (μ.1 8) n < 3 := (hI.2.2.2 n hn).1.2
  refine lv_aload_n hx hb dX8_resistance_0 rfl (lv_at hl 0 rfl) ?_
  refine lv_iload_n hx hb dX8_resistance_1 rfl (lv_at hl 1 rfl) ?_
  refine lv_iconst (v := 2) hx hb dX8_resistance_2 (by decide) ?_
  refine c_iR hw (run_V (As := [.int (nI n), .int 2]) (rest := []) (np := 2) hf hw (kn_X8_of l E _  n 2  (show n < 6 from hn) (show 2 < 29 from (by decide))) ⟨gl_V q227 q228 q229 q5 q230, by decide +kernel⟩ ⟨rfl, rfl, Nat.le_of_ble_eq_true rfl, Nat.le_of_ble_eq_true rfl⟩ (by decide) (c_R E _) rfl rfl hl.1 rfl (Nat.le_of_ble_eq_true rfl) dX8_resistance_3 ⟨Nat.zero_le _, Nat.zero_le _⟩) (fun H locs hw => ?_)
  refine lv_i2l hx hb dX8_resistance_6 rfl ?_
  refine lv_aload_n hx hb dX8_resistance_7 rfl (lv_at hl 0 rfl) ?_
  refine lv_aload_n hx hb dX8_resistance_8 rfl (lv_at hl 0 rfl) ?_
  refine lv_iload_n hx hb dX8_resistance_9 rfl (lv_at hl 1 rfl) ?_
  refine lv_iconst (v := 0) hx hb dX8_resistance_10 (by decide) ?_
  refine c_iR hw (run_V (As := [.int (nI n), .int 0]) (rest := [.ref (E.1 (232)), .long ((μ.1 8 (85 + 29 * n + 2)).toInt64)]) (np := 2) hf hw (kn_X8_of l E _  n 0  (show n < 6 from hn) (show 0 < 29 from (by decide))) ⟨gl_V q227 q228 q229 q5 q230, by decide +kernel⟩ ⟨rfl, rfl, Nat.le_of_ble_eq_true rfl, Nat.le_of_ble_eq_true rfl⟩ (by decide) (c_R E _) rfl rfl hl.1 rfl (Nat.le_of_ble_eq_true rfl) dX8_resistance_11 ⟨Nat.zero_le _, Nat.zero_le _⟩) (fun H locs hw => ?_)
  have hb1 := (hI.2.2.2 n hn).1.2
  refine fold_i (show μ.1 8 (85 + 29 * n + 0) = nI (oN (μ.1 8) n) from (hI.2.2.2 n hn).1.1) ?_
  refine lv_iload_n hx hb dX8_resistance_14 rfl (lv_at hl 2 rfl) ?_
  refine c_iR hw (run_V (As := [.int (nI (oN (μ.1 8) n)), .int (w)]) (rest := [.long ((μ.1 8 (85 + 29 * n + 2)).toInt64)]) (np := 2) hf hw (k_X8_ratioAt l E _  (oN (μ.1 8) n) w  (show oN (μ.1 8) n < 3 from hob) hI (hG.2.1 _ hob).1 hS.2.1 hle) ⟨gl_V q271 q272 q273 q5 q274, by decide +kernel⟩ ⟨rfl, rfl, Nat.le_of_ble_eq_true rfl, Nat.le_of_ble_eq_true rfl⟩ (by decide) (c_R E _) rfl rfl hl.1 rfl (Nat.le_of_ble_eq_true rfl) dX8_resistance_15 ⟨Nat.zero_le _, Nat.zero_le _⟩) (fun H locs hw => ?_)
  refine lv_i2l hx hb dX8_resistance_18 rfl ?_
  refine lv_lmul hx hb dX8_resistance_19 ?_
  refine lv_ldc2 hx hb hf.2.2.2.1 (hf.2.2.2.2 _ q507) dX8_resistance_20 ?_
  refine lv_ldiv hx hb dX8_resistance_23 (by decide) ?_
  exact e_l hf hr hlocks hw (congrArg (fun z => (z, μ)) rfl) dX8_resistance_24
theorem at_le {g : Nat → Int32} {n : Nat} (hS : RS g n) : g (85 + 29 * n + 4) ≤ rL g (oN g n) := Int32.le_iff_toInt_le.mpr hS.2.2.1.2
theorem res_bd {g : Nat → Int32} {n : Nat} {w : Int32} (hG : RG g) (hS : RS g n) (h0 : (g (11 + 25 * (oN g n) + 0)).toInt ≤ w.toInt) (h1 : w ≤ rL g (oN g n)) : 0 ≤ (sp_X8_resistance g n w).toInt ∧ (sp_X8_resistance g n w).toInt ≤ 20000000 := by
  have ho : oN g n < 3 := (hG.1.2.2.2 n hS.1).1.2
  obtain ⟨r1, r2⟩ := rat_bd (hG.2.1 _ ho).1 (hG.2.1 _ ho).2 hS.2.1 h0 h1
  obtain ⟨b1, b2⟩ := hS.2.2.2.1
  unfold sp_X8_resistance
  have m0 : 0 ≤ (g (85 + 29 * n + 2)).toInt * (sp_X8_ratioAt g (oN g n) w).toInt := Int.mul_nonneg (by omega) (by omega)
  have m1 : (g (85 + 29 * n + 2)).toInt * (sp_X8_ratioAt g (oN g n) w).toInt ≤ 2000000 * 10000000 := Int.mul_le_mul (by omega) (by omega) (by omega) (by omega)
  have m : ((g (85 + 29 * n + 2)).toInt64 * (sp_X8_ratioAt g (oN g n) w).toInt64).toInt = (g (85 + 29 * n + 2)).toInt * (sp_X8_ratioAt g (oN g n) w).toInt := by
    rw [Int64.toInt_mul, Int32.toInt_toInt64, Int32.toInt_toInt64, L_of _ (by omega)]
  have d : (((g (85 + 29 * n + 2)).toInt64 * (sp_X8_ratioAt g (oN g n) w).toInt64) / 1000000).toInt = (g (85 + 29 * n + 2)).toInt * (sp_X8_ratioAt g (oN g n) w).toInt / 1000000 := by
    rw [Int64.toInt_div, m, show (1000000 : Int64).toInt = 1000000 by decide, Int.tdiv_eq_ediv_of_nonneg m0, L_of _ (by omega)]
  rw [d]
  omega
theorem wm_bd {c h : Int32} {r : Int64} (hc : 100 ≤ c.toInt ∧ c.toInt ≤ 5000) (hr : 0 ≤ r.toInt ∧ r.toInt ≤ 20000000) (hh : 0 ≤ h.toInt ∧ h.toInt ≤ 5000) : 0 ≤ (((((c.toInt64 * c.toInt64) * r) / 1000000) * h.toInt64) / 1000000).toInt ∧ (((((c.toInt64 * c.toInt64) * r) / 1000000) * h.toInt64) / 1000000).toInt ≤ 2500000 := by
  have c0 : 0 ≤ c.toInt * c.toInt := Int.mul_nonneg (by omega) (by omega)
  have c1 : c.toInt * c.toInt ≤ 5000 * 5000 := Int.mul_le_mul (by omega) (by omega) (by omega) (by omega)
  have e1 : (c.toInt64 * c.toInt64).toInt = c.toInt * c.toInt := by rw [Int64.toInt_mul, Int32.toInt_toInt64, L_of _ (by omega)]
  have k0 : 0 ≤ c.toInt * c.toInt * r.toInt := Int.mul_nonneg c0 (by omega)
  have k1 : c.toInt * c.toInt * r.toInt ≤ 25000000 * 20000000 := Int.mul_le_mul (by omega) (by omega) (by omega) (by omega)
  have e2 : (c.toInt64 * c.toInt64 * r).toInt = c.toInt * c.toInt * r.toInt := by rw [Int64.toInt_mul, e1, L_of _ (by omega)]
  have e3 : (c.toInt64 * c.toInt64 * r / 1000000).toInt = c.toInt * c.toInt * r.toInt / 1000000 := by
    rw [Int64.toInt_div, e2, show (1000000 : Int64).toInt = 1000000 by decide, Int.tdiv_eq_ediv_of_nonneg k0, L_of _ (by omega)]
  generalize hK : c.toInt * c.toInt * r.toInt / 1000000 = K at *
  have K0 : 0 ≤ K := by omega
  have K1 : K ≤ 500000000 := by omega
  have n0 : 0 ≤ K * h.toInt := Int.mul_nonneg K0 (by omega)
  have n1 : K * h.toInt ≤ 500000000 * 5000 := Int.mul_le_mul (by omega) (by omega) (by omega) (by omega)
  have e4 : (c.toInt64 * c.toInt64 * r / 1000000 * h.toInt64).toInt = K * h.toInt := by rw [Int64.toInt_mul, e3, Int32.toInt_toInt64, L_of _ (by omega)]
  rw [Int64.toInt_div, e4, show (1000000 : Int64).toInt = 1000000 by decide, Int.tdiv_eq_ediv_of_nonneg n0, L_of _ (by omega)]
  omega
theorem th_le {x : Int64} {e : Int32} (h0 : -2147483648 ≤ x.toInt) (c : x ≤ e.toInt64) : x.toInt32 ≤ e := by
  rw [Int64.le_iff_toInt_le, Int32.toInt_toInt64] at c
  have := Int32.toInt_lt e
  rw [Int32.le_iff_toInt_le, Int64.toInt_toInt32, I_of _ (by omega)]
  exact c
theorem heat_lo {g : Nat → Int32} {n : Nat} {c : Int32} (hG : RG g) (hS : RS g n) (hc : 100 ≤ c.toInt ∧ c.toInt ≤ 5000) : -2147483648 ≤ ((g (85 + 29 * n + 4)).toInt64 + (((((c.toInt64 * c.toInt64) * sp_X8_resistance g n (g (85 + 29 * n + 4))) / 1000000) * (g (85 + 29 * n + 9)).toInt64) / 1000000)).toInt := by
  have r := res_bd hG hS hS.2.2.1.1 (at_le hS)
  have w := wm_bd hc r hS.2.2.2.2.2
  have a1 := hS.2.2.1
  have ho : oN g n < 3 := (hG.1.2.2.2 n hS.1).1.2
  have fl := rt_fl (hG.2.1 _ ho).1 hS.2.1
  rw [Int64.toInt_add, Int32.toInt_toInt64, L_of _ (by omega)]
  omega
def sp_X8_heated (g : Nat → Int32)  (n : Nat) (cu : Int32) : Int64 :=
  if ((g (85 + 29 * n + 11)) : Int32) = 1 then
    0
  else
    if (((g (85 + 29 * n + 4)).toInt64) + ((((((cu.toInt64) * (cu.toInt64)) * (sp_X8_resistance g  n (g (85 + 29 * n + 4)))) / 1000000) * ((g (85 + 29 * n + 9)).toInt64)) / 1000000) : Int64) ≤ (rL g (oN g n)).toInt64 then
      sp_X8_resistance g  n ((((g (85 + 29 * n + 4)).toInt64) + ((((((cu.toInt64) * (cu.toInt64)) * (sp_X8_resistance g  n (g (85 + 29 * n + 4)))) / 1000000) * ((g (85 + 29 * n + 9)).toInt64)) / 1000000)).toInt32)
    else
      sp_X8_resistance g  n (rL g (oN g n))
set_option maxHeartbeats 4000000 in
set_option maxRecDepth 100000 in
theorem k_X8_heated (l : Launch) (E : En) (μ : Mu)  (n : Nat) (cu : Int32) (hG : RG (μ.1 8)) (hS : RS (μ.1 8) n) (hc : 100 ≤ cu.toInt ∧ cu.toInt ≤ 5000) : MtL l yX8_heated cX8_heated 8 ({ frames := 3, cells := 0, slots := 0, locals := 69 }) [.ref (E.1 (232)), .int (nI n), .int (cu)] E μ ((sp_X8_heated (μ.1 8) n cu), μ) := by
  refine mt_of (by decide +kernel) (Nat.le_of_ble_eq_true rfl) ?_
  intro p e s m args below meth c ls hf hr hlocks hl hw
  have hx := hf.1
  have hb := hf.2.1
  have hl : lv_has ls 8 [(0, .ref (E.1 (232))), (1, .int (nI n)), (2, .int (cu))] := hl
  have hI := hG.1
  have hn := hS.1
  have hob : oN (μ.1 8) n < 3 := (hI.2.2.2 n hn).1.2
  refine lv_aload_n hx hb dX8_heated_0 rfl (lv_at hl 0 rfl) ?_
  refine lv_iload_n hx hb dX8_heated_1 rfl (lv_at hl 1 rfl) ?_
  refine lv_bipush (v := 11) hx hb dX8_heated_2 (by decide) ?_
  refine c_iR hw (run_V (As := [.int (nI n), .int 11]) (rest := []) (np := 2) hf hw (kn_X8_of l E _  n 11  (show n < 6 from hn) (show 11 < 29 from (by decide))) ⟨gl_V q227 q228 q229 q5 q230, by decide +kernel⟩ ⟨rfl, rfl, Nat.le_of_ble_eq_true rfl, Nat.le_of_ble_eq_true rfl⟩ (by decide) (c_R E _) rfl rfl hl.1 rfl (Nat.le_of_ble_eq_true rfl) dX8_heated_4 ⟨Nat.zero_le _, Nat.zero_le _⟩) (fun H locs hw => ?_)
  refine lv_iconst (v := 1) hx hb dX8_heated_7 (by decide) ?_
  refine lv_icmp_ne (tgt := 13) hx hb dX8_heated_8 (by decide) (fun c1 => ?_) (fun c1 => ?_)
  · refine lv_iload_n hx hb dX8_heated_13 rfl (lv_at hl 2 rfl) ?_
    refine lv_i2l hx hb dX8_heated_14 rfl ?_
    refine lv_iload_n hx hb dX8_heated_15 rfl (lv_at hl 2 rfl) ?_
    refine lv_i2l hx hb dX8_heated_16 rfl ?_
    refine lv_lmul hx hb dX8_heated_17 ?_
    refine lv_aload_n hx hb dX8_heated_18 rfl (lv_at hl 0 rfl) ?_
    refine lv_iload_n hx hb dX8_heated_19 rfl (lv_at hl 1 rfl) ?_
    refine lv_aload_n hx hb dX8_heated_20 rfl (lv_at hl 0 rfl) ?_
    refine lv_iload_n hx hb dX8_heated_21 rfl (lv_at hl 1 rfl) ?_
    refine lv_iconst (v := 4) hx hb dX8_heated_22 (by decide) ?_
    refine c_iR hw (run_V (As := [.int (nI n), .int 4]) (rest := [.int (nI n), .ref (E.1 (232)), .long ((cu.toInt64) * (cu.toInt64))]) (np := 2) hf hw (kn_X8_of l E _  n 4  (show n < 6 from hn) (show 4 < 29 from (by decide))) ⟨gl_V q227 q228 q229 q5 q230, by decide +kernel⟩ ⟨rfl, rfl, Nat.le_of_ble_eq_true rfl, Nat.le_of_ble_eq_true rfl⟩ (by decide) (c_R E _) rfl rfl hl.1 rfl (Nat.le_of_ble_eq_true rfl) dX8_heated_23 ⟨Nat.zero_le _, Nat.zero_le _⟩) (fun H locs hw => ?_)
    refine c_lR hw (run_V (As := [.int (nI n), .int ((μ.1 8 (85 + 29 * n + 4)))]) (rest := [.long ((cu.toInt64) * (cu.toInt64))]) (np := 2) hf hw (k_X8_resistance l E _  n (μ.1 8 (85 + 29 * n + 4))  hG hS (at_le hS)) ⟨gl_V q664 q665 q666 q5 q667, by decide +kernel⟩ ⟨rfl, rfl, Nat.le_of_ble_eq_true rfl, Nat.le_of_ble_eq_true rfl⟩ (by decide) (c_R E _) rfl rfl hl.1 rfl (Nat.le_of_ble_eq_true rfl) dX8_heated_26 ⟨Nat.zero_le _, Nat.zero_le _⟩) (fun H locs hw => ?_)
    refine lv_lmul hx hb dX8_heated_29 ?_
    refine lv_ldc2 hx hb hf.2.2.2.1 (hf.2.2.2.2 _ q507) dX8_heated_30 ?_
    refine lv_ldiv hx hb dX8_heated_33 (by decide) ?_
    refine lv_aload_n hx hb dX8_heated_34 rfl (lv_at hl 0 rfl) ?_
    refine lv_iload_n hx hb dX8_heated_35 rfl (lv_at hl 1 rfl) ?_
    refine lv_bipush (v := 9) hx hb dX8_heated_36 (by decide) ?_
    refine c_iR hw (run_V (As := [.int (nI n), .int 9]) (rest := [.long ((((cu.toInt64) * (cu.toInt64)) * (sp_X8_resistance (μ.1 8)  n (μ.1 8 (85 + 29 * n + 4)))) / 1000000)]) (np := 2) hf hw (kn_X8_of l E _  n 9  (show n < 6 from hn) (show 9 < 29 from (by decide))) ⟨gl_V q227 q228 q229 q5 q230, by decide +kernel⟩ ⟨rfl, rfl, Nat.le_of_ble_eq_true rfl, Nat.le_of_ble_eq_true rfl⟩ (by decide) (c_R E _) rfl rfl hl.1 rfl (Nat.le_of_ble_eq_true rfl) dX8_heated_38 ⟨Nat.zero_le _, Nat.zero_le _⟩) (fun H locs hw => ?_)
    refine lv_i2l hx hb dX8_heated_41 rfl ?_
    refine lv_lmul hx hb dX8_heated_42 ?_
    refine lv_ldc2 hx hb hf.2.2.2.1 (hf.2.2.2.2 _ q507) dX8_heated_43 ?_
    refine lv_ldiv hx hb dX8_heated_46 (by decide) ?_
    refine lv_lstore_n (lv' := [(3, .long ((((((cu.toInt64) * (cu.toInt64)) * (sp_X8_resistance (μ.1 8)  n (μ.1 8 (85 + 29 * n + 4)))) / 1000000) * ((μ.1 8 (85 + 29 * n + 9)).toInt64)) / 1000000)), (0, .ref (E.1 (232))), (1, .int (nI n)), (2, .int (cu))]) hx hb dX8_heated_47 rfl hl (by decide) rfl (fun ls hl => ?_)
    refine lv_aload_n hx hb dX8_heated_48 rfl (lv_at hl 1 rfl) ?_
    refine lv_iload_n hx hb dX8_heated_49 rfl (lv_at hl 2 rfl) ?_
    refine lv_iconst (v := 4) hx hb dX8_heated_50 (by decide) ?_
    refine c_iR hw (run_V (As := [.int (nI n), .int 4]) (rest := []) (np := 2) hf hw (kn_X8_of l E _  n 4  (show n < 6 from hn) (show 4 < 29 from (by decide))) ⟨gl_V q227 q228 q229 q5 q230, by decide +kernel⟩ ⟨rfl, rfl, Nat.le_of_ble_eq_true rfl, Nat.le_of_ble_eq_true rfl⟩ (by decide) (c_R E _) rfl rfl hl.1 rfl (Nat.le_of_ble_eq_true rfl) dX8_heated_51 ⟨Nat.zero_le _, Nat.zero_le _⟩) (fun H locs hw => ?_)
    refine lv_i2l hx hb dX8_heated_54 rfl ?_
    refine lv_lload_n hx hb dX8_heated_55 rfl (lv_at hl 0 rfl) ?_
    refine lv_ladd hx hb dX8_heated_56 ?_
    refine lv_lstore (lv' := [(5, .long (((μ.1 8 (85 + 29 * n + 4)).toInt64) + ((((((cu.toInt64) * (cu.toInt64)) * (sp_X8_resistance (μ.1 8)  n (μ.1 8 (85 + 29 * n + 4)))) / 1000000) * ((μ.1 8 (85 + 29 * n + 9)).toInt64)) / 1000000))), (3, .long ((((((cu.toInt64) * (cu.toInt64)) * (sp_X8_resistance (μ.1 8)  n (μ.1 8 (85 + 29 * n + 4)))) / 1000000) * ((μ.1 8 (85 + 29 * n + 9)).toInt64)) / 1000000)), (0, .ref (E.1 (232))), (1, .int (nI n)), (2, .int (cu))]) hx hb dX8_heated_57 hl (by decide) rfl (fun ls hl => ?_)
    refine lv_aload_n hx hb dX8_heated_59 rfl (lv_at hl 2 rfl) ?_
    refine lv_aload_n hx hb dX8_heated_60 rfl (lv_at hl 2 rfl) ?_
    refine lv_iload_n hx hb dX8_heated_61 rfl (lv_at hl 3 rfl) ?_
    refine lv_iconst (v := 0) hx hb dX8_heated_62 (by decide) ?_
    refine c_iR hw (run_V (As := [.int (nI n), .int 0]) (rest := [.ref (E.1 (232))]) (np := 2) hf hw (kn_X8_of l E _  n 0  (show n < 6 from hn) (show 0 < 29 from (by decide))) ⟨gl_V q227 q228 q229 q5 q230, by decide +kernel⟩ ⟨rfl, rfl, Nat.le_of_ble_eq_true rfl, Nat.le_of_ble_eq_true rfl⟩ (by decide) (c_R E _) rfl rfl hl.1 rfl (Nat.le_of_ble_eq_true rfl) dX8_heated_63 ⟨Nat.zero_le _, Nat.zero_le _⟩) (fun H locs hw => ?_)
    have hb2 := (hI.2.2.2 n hn).1.2
    refine fold_i (show μ.1 8 (85 + 29 * n + 0) = nI (oN (μ.1 8) n) from (hI.2.2.2 n hn).1.1) ?_
    refine c_iR hw (run_V (As := [.int (nI (oN (μ.1 8) n))]) (rest := []) (np := 1) hf hw (kn_X8_last l E _  (oN (μ.1 8) n)  (show oN (μ.1 8) n < 3 from hob) hI (Nat.le_trans (by decide) hS.2.1)) ⟨gl_V q267 q268 q269 q5 q270, by decide +kernel⟩ ⟨rfl, rfl, Nat.le_of_ble_eq_true rfl, Nat.le_of_ble_eq_true rfl⟩ (by decide) (c_R E _) rfl rfl hl.1 rfl (Nat.le_of_ble_eq_true rfl) dX8_heated_66 ⟨Nat.zero_le _, Nat.zero_le _⟩) (fun H locs hw => ?_)
    refine lv_istore (lv' := [(7, .int (rL (μ.1 8) (oN (μ.1 8) n))), (5, .long (((μ.1 8 (85 + 29 * n + 4)).toInt64) + ((((((cu.toInt64) * (cu.toInt64)) * (sp_X8_resistance (μ.1 8)  n (μ.1 8 (85 + 29 * n + 4)))) / 1000000) * ((μ.1 8 (85 + 29 * n + 9)).toInt64)) / 1000000))), (3, .long ((((((cu.toInt64) * (cu.toInt64)) * (sp_X8_resistance (μ.1 8)  n (μ.1 8 (85 + 29 * n + 4)))) / 1000000) * ((μ.1 8 (85 + 29 * n + 9)).toInt64)) / 1000000)), (0, .ref (E.1 (232))), (1, .int (nI n)), (2, .int (cu))]) hx hb dX8_heated_69 hl (by decide) rfl (fun ls hl => ?_)
    refine lv_aload_n hx hb dX8_heated_71 rfl (lv_at hl 3 rfl) ?_
    refine lv_iload_n hx hb dX8_heated_72 rfl (lv_at hl 4 rfl) ?_
    refine lv_lload hx hb dX8_heated_73 (lv_at hl 1 rfl) ?_
    refine lv_iload hx hb dX8_heated_75 (lv_at hl 0 rfl) ?_
    refine lv_i2l hx hb dX8_heated_77 rfl ?_
    refine W.lcmp hx hb dX8_heated_78 ?_
    refine lv_if_le (tgt := 87) hx hb dX8_heated_79 (by decide) (fun c3 => ?_) (fun c3 => ?_)
    · replace c3 := (lg_cmp_le _ _).mp c3
      refine lv_lload hx hb dX8_heated_87 (lv_at hl 1 rfl) ?_
      refine lv_l2i hx hb dX8_heated_89 rfl ?_
      refine c_lR hw (run_V (As := [.int (nI n), .int ((((μ.1 8 (85 + 29 * n + 4)).toInt64) + ((((((cu.toInt64) * (cu.toInt64)) * (sp_X8_resistance (μ.1 8)  n (μ.1 8 (85 + 29 * n + 4)))) / 1000000) * ((μ.1 8 (85 + 29 * n + 9)).toInt64)) / 1000000)).toInt32)]) (rest := []) (np := 2) hf hw (k_X8_resistance l E _  n ((((μ.1 8 (85 + 29 * n + 4)).toInt64) + ((((((cu.toInt64) * (cu.toInt64)) * (sp_X8_resistance (μ.1 8)  n (μ.1 8 (85 + 29 * n + 4)))) / 1000000) * ((μ.1 8 (85 + 29 * n + 9)).toInt64)) / 1000000)).toInt32)  hG hS (th_le (heat_lo hG hS hc) c3)) ⟨gl_V q664 q665 q666 q5 q667, by decide +kernel⟩ ⟨rfl, rfl, Nat.le_of_ble_eq_true rfl, Nat.le_of_ble_eq_true rfl⟩ (by decide) (c_R E _) rfl rfl hl.1 rfl (Nat.le_of_ble_eq_true rfl) dX8_heated_90 ⟨Nat.zero_le _, Nat.zero_le _⟩) (fun H locs hw => ?_)
      exact e_l hf hr hlocks hw (congrArg (fun z => (z, μ)) ((if_neg c1).trans ((if_pos c3).trans rfl))) dX8_heated_93
    · replace c3 := mt (lg_cmp_le _ _).mpr c3
      refine lv_iload hx hb dX8_heated_82 (lv_at hl 0 rfl) ?_
      refine lv_goto (tgt := 90) hx hb dX8_heated_84 (by decide) ?_
      refine c_lR hw (run_V (As := [.int (nI n), .int (rL (μ.1 8) (oN (μ.1 8) n))]) (rest := []) (np := 2) hf hw (k_X8_resistance l E _  n (rL (μ.1 8) (oN (μ.1 8) n))  hG hS (Int32.le_iff_toInt_le.mpr (Int.le_refl _))) ⟨gl_V q664 q665 q666 q5 q667, by decide +kernel⟩ ⟨rfl, rfl, Nat.le_of_ble_eq_true rfl, Nat.le_of_ble_eq_true rfl⟩ (by decide) (c_R E _) rfl rfl hl.1 rfl (Nat.le_of_ble_eq_true rfl) dX8_heated_90 ⟨Nat.zero_le _, Nat.zero_le _⟩) (fun H locs hw => ?_)
      exact e_l hf hr hlocks hw (congrArg (fun z => (z, μ)) ((if_neg c1).trans ((if_neg c3).trans rfl))) dX8_heated_93
  · refine lv_lconst (v := 0) hx hb dX8_heated_11 (by decide) ?_
    exact e_l hf hr hlocks hw (congrArg (fun z => (z, μ)) ((if_pos c1).trans rfl)) dX8_heated_12
theorem nzM {c : Int32} {r : Int32} (hc : 100 ≤ c.toInt ∧ c.toInt ≤ 5000) (hr : 10000 ≤ r.toInt ∧ r.toInt ≤ 1000000) : ¬ c.toInt64 * r.toInt64 = 0 := by
  intro q
  have e := congrArg Int64.toInt q
  have m0 : 100 * 10000 ≤ c.toInt * r.toInt := Int.mul_le_mul (by omega) (by omega) (by omega) (by omega)
  have m1 : c.toInt * r.toInt ≤ 5000 * 1000000 := Int.mul_le_mul (by omega) (by omega) (by omega) (by omega)
  rw [Int64.toInt_mul, Int32.toInt_toInt64, Int32.toInt_toInt64, L_of _ (by omega), show (0 : Int64).toInt = 0 by decide] at e
  omega
theorem bits_in {b : Int32} (h : 8 ≤ b.toInt ∧ b.toInt ≤ 24) : ∃ k, k < 25 ∧ 8 ≤ k ∧ b = nI k := by
  obtain ⟨j, hj, rfl⟩ := nI_of (x := b) (fun z => by rw [Int32.lt_iff_toInt_lt, Int32.toInt_zero] at z; omega)
  rw [nI_toInt hj] at h
  exact ⟨j, by omega, by omega, rfl⟩
theorem nzB {b : Int32} (h : 8 ≤ b.toInt ∧ b.toInt ≤ 24) : ¬ (1 : Int64) <<< (b.toInt64 &&& 63) = 0 := by
  obtain ⟨k, hk, hk2, rfl⟩ := bits_in h
  have key : ∀ k, k < 25 → ¬ (1 : Int64) <<< ((nI k).toInt64 &&& 63) = 0 := by decide +kernel
  exact key k hk
theorem nzS {c d : Int32} (hc : 100 ≤ c.toInt ∧ c.toInt ≤ 5000) (hd : 100 ≤ d.toInt ∧ d.toInt ≤ 5000) (hne : ¬ c.toInt64 = d.toInt64) : ¬ (d.toInt64 * d.toInt64) - (c.toInt64 * c.toInt64) = 0 := by
  intro q
  have e := congrArg Int64.toInt q
  have c0 : 0 ≤ c.toInt * c.toInt := Int.mul_nonneg (by omega) (by omega)
  have c1 : c.toInt * c.toInt ≤ 5000 * 5000 := Int.mul_le_mul (by omega) (by omega) (by omega) (by omega)
  have d0 : 0 ≤ d.toInt * d.toInt := Int.mul_nonneg (by omega) (by omega)
  have d1 : d.toInt * d.toInt ≤ 5000 * 5000 := Int.mul_le_mul (by omega) (by omega) (by omega) (by omega)
  have dd : (d.toInt64 * d.toInt64).toInt = d.toInt * d.toInt := by rw [Int64.toInt_mul, Int32.toInt_toInt64, L_of _ (by omega)]
  have cc : (c.toInt64 * c.toInt64).toInt = c.toInt * c.toInt := by rw [Int64.toInt_mul, Int32.toInt_toInt64, L_of _ (by omega)]
  rw [Int64.toInt_sub, dd, cc, L_of _ (by omega), show (0 : Int64).toInt = 0 by decide] at e
  apply hne
  apply Int64.toInt_inj.mp
  rw [Int32.toInt_toInt64, Int32.toInt_toInt64]
  rcases Int.lt_trichotomy c.toInt d.toInt with z | z | z
  · have h1 : c.toInt * c.toInt < d.toInt * d.toInt := by
      have a1 : c.toInt * c.toInt ≤ c.toInt * d.toInt := Int.mul_le_mul_of_nonneg_left (by omega) (by omega)
      have a2 : c.toInt * d.toInt < d.toInt * d.toInt := Int.mul_lt_mul_of_pos_right z (by omega)
      omega
    omega
  · exact z
  · have h1 : d.toInt * d.toInt < c.toInt * c.toInt := by
      have a1 : d.toInt * d.toInt ≤ d.toInt * c.toInt := Int.mul_le_mul_of_nonneg_left (by omega) (by omega)
      have a2 : d.toInt * c.toInt < c.toInt * c.toInt := Int.mul_lt_mul_of_pos_right z (by omega)
      omega
    omega
def sp_X8_loop (g : Nat → Int32)  (n : Nat) (cu : Int32) : Int64 :=
  if ((g (85 + 29 * n + 1)) : Int32) = 4 then
    (sp_X8_heated g  n cu) + ((0 : Int32).toInt64)
  else
    (sp_X8_heated g  n cu) + (((g (85 + 29 * n + 5)) + (g (85 + 29 * n + 6))).toInt64)
set_option maxHeartbeats 4000000 in
set_option maxRecDepth 100000 in
theorem k_X8_loop (l : Launch) (E : En) (μ : Mu)  (n : Nat) (cu : Int32) (hG : RG (μ.1 8)) (hS : RS (μ.1 8) n) (hc : 100 ≤ cu.toInt ∧ cu.toInt ≤ 5000) : MtL l yX8_loop cX8_loop 3 ({ frames := 4, cells := 0, slots := 0, locals := 96 }) [.ref (E.1 (232)), .int (nI n), .int (cu)] E μ ((sp_X8_loop (μ.1 8) n cu), μ) := by
  refine mt_of (by decide +kernel) (Nat.le_of_ble_eq_true rfl) ?_
  intro p e s m args below meth c ls hf hr hlocks hl hw
  have hx := hf.1
  have hb := hf.2.1
  have hl : lv_has ls 3 [(0, .ref (E.1 (232))), (1, .int (nI n)), (2, .int (cu))] := hl
  have hI := hG.1
  have hn := hS.1
  have hob : oN (μ.1 8) n < 3 := (hI.2.2.2 n hn).1.2
  refine lv_aload_n hx hb dX8_loop_0 rfl (lv_at hl 0 rfl) ?_
  refine lv_iload_n hx hb dX8_loop_1 rfl (lv_at hl 1 rfl) ?_
  refine lv_iload_n hx hb dX8_loop_2 rfl (lv_at hl 2 rfl) ?_
  refine c_lR hw (run_V (As := [.int (nI n), .int (cu)]) (rest := []) (np := 2) hf hw (k_X8_heated l E _  n cu  hG hS hc) ⟨gl_V q660 q661 q662 q5 q663, by decide +kernel⟩ ⟨rfl, rfl, Nat.le_of_ble_eq_true rfl, Nat.le_of_ble_eq_true rfl⟩ (by decide) (c_R E _) rfl rfl hl.1 rfl (Nat.le_of_ble_eq_true rfl) dX8_loop_3 ⟨Nat.zero_le _, Nat.zero_le _⟩) (fun H locs hw => ?_)
  refine lv_aload_n hx hb dX8_loop_6 rfl (lv_at hl 0 rfl) ?_
  refine lv_iload_n hx hb dX8_loop_7 rfl (lv_at hl 1 rfl) ?_
  refine lv_iconst (v := 1) hx hb dX8_loop_8 (by decide) ?_
  refine c_iR hw (run_V (As := [.int (nI n), .int 1]) (rest := [.long (sp_X8_heated (μ.1 8)  n cu)]) (np := 2) hf hw (kn_X8_of l E _  n 1  (show n < 6 from hn) (show 1 < 29 from (by decide))) ⟨gl_V q227 q228 q229 q5 q230, by decide +kernel⟩ ⟨rfl, rfl, Nat.le_of_ble_eq_true rfl, Nat.le_of_ble_eq_true rfl⟩ (by decide) (c_R E _) rfl rfl hl.1 rfl (Nat.le_of_ble_eq_true rfl) dX8_loop_9 ⟨Nat.zero_le _, Nat.zero_le _⟩) (fun H locs hw => ?_)
  refine lv_iconst (v := 4) hx hb dX8_loop_12 (by decide) ?_
  refine lv_icmp_ne (tgt := 20) hx hb dX8_loop_13 (by decide) (fun c1 => ?_) (fun c1 => ?_)
  · refine lv_aload_n hx hb dX8_loop_20 rfl (lv_at hl 0 rfl) ?_
    refine lv_iload_n hx hb dX8_loop_21 rfl (lv_at hl 1 rfl) ?_
    refine lv_iconst (v := 5) hx hb dX8_loop_22 (by decide) ?_
    refine c_iR hw (run_V (As := [.int (nI n), .int 5]) (rest := [.long (sp_X8_heated (μ.1 8)  n cu)]) (np := 2) hf hw (kn_X8_of l E _  n 5  (show n < 6 from hn) (show 5 < 29 from (by decide))) ⟨gl_V q227 q228 q229 q5 q230, by decide +kernel⟩ ⟨rfl, rfl, Nat.le_of_ble_eq_true rfl, Nat.le_of_ble_eq_true rfl⟩ (by decide) (c_R E _) rfl rfl hl.1 rfl (Nat.le_of_ble_eq_true rfl) dX8_loop_23 ⟨Nat.zero_le _, Nat.zero_le _⟩) (fun H locs hw => ?_)
    refine lv_aload_n hx hb dX8_loop_26 rfl (lv_at hl 0 rfl) ?_
    refine lv_iload_n hx hb dX8_loop_27 rfl (lv_at hl 1 rfl) ?_
    refine lv_bipush (v := 6) hx hb dX8_loop_28 (by decide) ?_
    refine c_iR hw (run_V (As := [.int (nI n), .int 6]) (rest := [.int ((μ.1 8 (85 + 29 * n + 5))), .long (sp_X8_heated (μ.1 8)  n cu)]) (np := 2) hf hw (kn_X8_of l E _  n 6  (show n < 6 from hn) (show 6 < 29 from (by decide))) ⟨gl_V q227 q228 q229 q5 q230, by decide +kernel⟩ ⟨rfl, rfl, Nat.le_of_ble_eq_true rfl, Nat.le_of_ble_eq_true rfl⟩ (by decide) (c_R E _) rfl rfl hl.1 rfl (Nat.le_of_ble_eq_true rfl) dX8_loop_30 ⟨Nat.zero_le _, Nat.zero_le _⟩) (fun H locs hw => ?_)
    refine lv_iadd hx hb dX8_loop_33 ?_
    refine lv_i2l hx hb dX8_loop_34 rfl ?_
    refine lv_ladd hx hb dX8_loop_35 ?_
    exact e_l hf hr hlocks hw (congrArg (fun z => (z, μ)) ((if_neg c1).trans rfl)) dX8_loop_36
  · refine lv_iconst (v := 0) hx hb dX8_loop_16 (by decide) ?_
    refine lv_goto (tgt := 34) hx hb dX8_loop_17 (by decide) ?_
    refine lv_i2l hx hb dX8_loop_34 rfl ?_
    refine lv_ladd hx hb dX8_loop_35 ?_
    exact e_l hf hr hlocks hw (congrArg (fun z => (z, μ)) ((if_pos c1).trans rfl)) dX8_loop_36
def sp_X8_countsOneWay (g : Nat → Int32)  (n : Nat) (cu : Int32) (a : Int32) (b : Int32) : Int64 :=
  if (a : Int32) = 0 then
    if (b : Int32) = 0 then
      if (((((cu.toInt64) * (sp_X8_loop g  n cu)) + ((g (85 + 29 * n + 10)).toInt64)) * ((1 : Int64) <<< ((g 5).toInt64 &&& 63))) / ((cu.toInt64) * ((g 2).toInt64)) : Int64) ≤ 4 * ((1 : Int64) <<< ((g 5).toInt64 &&& 63)) then
        if ((-4) * ((1 : Int64) <<< ((g 5).toInt64 &&& 63)) : Int64) ≤ ((((cu.toInt64) * (sp_X8_loop g  n cu)) + ((g (85 + 29 * n + 10)).toInt64)) * ((1 : Int64) <<< ((g 5).toInt64 &&& 63))) / ((cu.toInt64) * ((g 2).toInt64)) then
          ((((cu.toInt64) * (sp_X8_loop g  n cu)) + ((g (85 + 29 * n + 10)).toInt64)) * ((1 : Int64) <<< ((g 5).toInt64 &&& 63))) / ((cu.toInt64) * ((g 2).toInt64))
        else
          (-4) * ((1 : Int64) <<< ((g 5).toInt64 &&& 63))
      else
        4 * ((1 : Int64) <<< ((g 5).toInt64 &&& 63))
    else
      if ((((-((cu.toInt64) * (sp_X8_loop g  n cu))) + ((g (85 + 29 * n + 10)).toInt64)) * ((1 : Int64) <<< ((g 5).toInt64 &&& 63))) / ((cu.toInt64) * ((g 2).toInt64)) : Int64) ≤ 4 * ((1 : Int64) <<< ((g 5).toInt64 &&& 63)) then
        if ((-4) * ((1 : Int64) <<< ((g 5).toInt64 &&& 63)) : Int64) ≤ (((-((cu.toInt64) * (sp_X8_loop g  n cu))) + ((g (85 + 29 * n + 10)).toInt64)) * ((1 : Int64) <<< ((g 5).toInt64 &&& 63))) / ((cu.toInt64) * ((g 2).toInt64)) then
          (((-((cu.toInt64) * (sp_X8_loop g  n cu))) + ((g (85 + 29 * n + 10)).toInt64)) * ((1 : Int64) <<< ((g 5).toInt64 &&& 63))) / ((cu.toInt64) * ((g 2).toInt64))
        else
          (-4) * ((1 : Int64) <<< ((g 5).toInt64 &&& 63))
      else
        4 * ((1 : Int64) <<< ((g 5).toInt64 &&& 63))
  else
    if (b : Int32) = 0 then
      if (((((cu.toInt64) * (((g (85 + 29 * n + 6)) + (g (85 + 29 * n + 7))).toInt64)) + ((g (85 + 29 * n + 10)).toInt64)) * ((1 : Int64) <<< ((g 5).toInt64 &&& 63))) / ((cu.toInt64) * ((g 2).toInt64)) : Int64) ≤ 4 * ((1 : Int64) <<< ((g 5).toInt64 &&& 63)) then
        if ((-4) * ((1 : Int64) <<< ((g 5).toInt64 &&& 63)) : Int64) ≤ ((((cu.toInt64) * (((g (85 + 29 * n + 6)) + (g (85 + 29 * n + 7))).toInt64)) + ((g (85 + 29 * n + 10)).toInt64)) * ((1 : Int64) <<< ((g 5).toInt64 &&& 63))) / ((cu.toInt64) * ((g 2).toInt64)) then
          ((((cu.toInt64) * (((g (85 + 29 * n + 6)) + (g (85 + 29 * n + 7))).toInt64)) + ((g (85 + 29 * n + 10)).toInt64)) * ((1 : Int64) <<< ((g 5).toInt64 &&& 63))) / ((cu.toInt64) * ((g 2).toInt64))
        else
          (-4) * ((1 : Int64) <<< ((g 5).toInt64 &&& 63))
      else
        4 * ((1 : Int64) <<< ((g 5).toInt64 &&& 63))
    else
      if ((((-((cu.toInt64) * (((g (85 + 29 * n + 6)) + (g (85 + 29 * n + 7))).toInt64))) + ((g (85 + 29 * n + 10)).toInt64)) * ((1 : Int64) <<< ((g 5).toInt64 &&& 63))) / ((cu.toInt64) * ((g 2).toInt64)) : Int64) ≤ 4 * ((1 : Int64) <<< ((g 5).toInt64 &&& 63)) then
        if ((-4) * ((1 : Int64) <<< ((g 5).toInt64 &&& 63)) : Int64) ≤ (((-((cu.toInt64) * (((g (85 + 29 * n + 6)) + (g (85 + 29 * n + 7))).toInt64))) + ((g (85 + 29 * n + 10)).toInt64)) * ((1 : Int64) <<< ((g 5).toInt64 &&& 63))) / ((cu.toInt64) * ((g 2).toInt64)) then
          (((-((cu.toInt64) * (((g (85 + 29 * n + 6)) + (g (85 + 29 * n + 7))).toInt64))) + ((g (85 + 29 * n + 10)).toInt64)) * ((1 : Int64) <<< ((g 5).toInt64 &&& 63))) / ((cu.toInt64) * ((g 2).toInt64))
        else
          (-4) * ((1 : Int64) <<< ((g 5).toInt64 &&& 63))
      else
        4 * ((1 : Int64) <<< ((g 5).toInt64 &&& 63))
set_option maxHeartbeats 4000000 in
set_option maxRecDepth 100000 in
theorem k_X8_countsOneWay (l : Launch) (E : En) (μ : Mu)  (n : Nat) (cu : Int32) (a : Int32) (b : Int32) (hG : RG (μ.1 8)) (hS : RS (μ.1 8) n) (hc : 100 ≤ cu.toInt ∧ cu.toInt ≤ 5000) : MtL l yX8_countsOneWay cX8_countsOneWay 13 ({ frames := 5, cells := 0, slots := 0, locals := 118 }) [.ref (E.1 (232)), .int (nI n), .int (cu), .int (a), .int (b)] E μ ((sp_X8_countsOneWay (μ.1 8) n cu a b), μ) := by
  refine mt_of (by decide +kernel) (Nat.le_of_ble_eq_true rfl) ?_
  intro p e s m args below meth c ls hf hr hlocks hl hw
  have hx := hf.1
  have hb := hf.2.1
  have hl : lv_has ls 13 [(0, .ref (E.1 (232))), (1, .int (nI n)), (2, .int (cu)), (3, .int (a)), (4, .int (b))] := hl
  have hI := hG.1
  have hn := hS.1
  have hob : oN (μ.1 8) n < 3 := (hI.2.2.2 n hn).1.2
  refine lv_iload_n hx hb dX8_countsOneWay_0 rfl (lv_at hl 3 rfl) ?_
  refine lv_if_ne (tgt := 13) hx hb dX8_countsOneWay_1 (by decide) (fun c1 => ?_) (fun c1 => ?_)
  · refine lv_aload_n hx hb dX8_countsOneWay_13 rfl (lv_at hl 0 rfl) ?_
    refine lv_iload_n hx hb dX8_countsOneWay_14 rfl (lv_at hl 1 rfl) ?_
    refine lv_bipush (v := 6) hx hb dX8_countsOneWay_15 (by decide) ?_
    refine c_iR hw (run_V (As := [.int (nI n), .int 6]) (rest := []) (np := 2) hf hw (kn_X8_of l E _  n 6  (show n < 6 from hn) (show 6 < 29 from (by decide))) ⟨gl_V q227 q228 q229 q5 q230, by decide +kernel⟩ ⟨rfl, rfl, Nat.le_of_ble_eq_true rfl, Nat.le_of_ble_eq_true rfl⟩ (by decide) (c_R E _) rfl rfl hl.1 rfl (Nat.le_of_ble_eq_true rfl) dX8_countsOneWay_17 ⟨Nat.zero_le _, Nat.zero_le _⟩) (fun H locs hw => ?_)
    refine lv_aload_n hx hb dX8_countsOneWay_20 rfl (lv_at hl 0 rfl) ?_
    refine lv_iload_n hx hb dX8_countsOneWay_21 rfl (lv_at hl 1 rfl) ?_
    refine lv_bipush (v := 7) hx hb dX8_countsOneWay_22 (by decide) ?_
    refine c_iR hw (run_V (As := [.int (nI n), .int 7]) (rest := [.int ((μ.1 8 (85 + 29 * n + 6)))]) (np := 2) hf hw (kn_X8_of l E _  n 7  (show n < 6 from hn) (show 7 < 29 from (by decide))) ⟨gl_V q227 q228 q229 q5 q230, by decide +kernel⟩ ⟨rfl, rfl, Nat.le_of_ble_eq_true rfl, Nat.le_of_ble_eq_true rfl⟩ (by decide) (c_R E _) rfl rfl hl.1 rfl (Nat.le_of_ble_eq_true rfl) dX8_countsOneWay_24 ⟨Nat.zero_le _, Nat.zero_le _⟩) (fun H locs hw => ?_)
    refine lv_iadd hx hb dX8_countsOneWay_27 ?_
    refine lv_i2l hx hb dX8_countsOneWay_28 rfl ?_
    refine lv_lstore (lv' := [(5, .long (((μ.1 8 (85 + 29 * n + 6)) + (μ.1 8 (85 + 29 * n + 7))).toInt64)), (0, .ref (E.1 (232))), (1, .int (nI n)), (2, .int (cu)), (3, .int (a)), (4, .int (b))]) hx hb dX8_countsOneWay_29 hl (by decide) rfl (fun ls hl => ?_)
    refine lv_iload hx hb dX8_countsOneWay_31 (lv_at hl 5 rfl) ?_
    refine lv_if_ne (tgt := 44) hx hb dX8_countsOneWay_33 (by decide) (fun c2 => ?_) (fun c2 => ?_)
    · refine lv_iload_n hx hb dX8_countsOneWay_44 rfl (lv_at hl 3 rfl) ?_
      refine lv_i2l hx hb dX8_countsOneWay_45 rfl ?_
      refine lv_lload hx hb dX8_countsOneWay_46 (lv_at hl 0 rfl) ?_
      refine lv_lmul hx hb dX8_countsOneWay_48 ?_
      refine lv_lneg hx hb dX8_countsOneWay_49 ?_
      refine lv_aload_n hx hb dX8_countsOneWay_50 rfl (lv_at hl 1 rfl) ?_
      refine lv_iload_n hx hb dX8_countsOneWay_51 rfl (lv_at hl 2 rfl) ?_
      refine lv_bipush (v := 10) hx hb dX8_countsOneWay_52 (by decide) ?_
      refine c_iR hw (run_V (As := [.int (nI n), .int 10]) (rest := [.long (-((cu.toInt64) * (((μ.1 8 (85 + 29 * n + 6)) + (μ.1 8 (85 + 29 * n + 7))).toInt64)))]) (np := 2) hf hw (kn_X8_of l E _  n 10  (show n < 6 from hn) (show 10 < 29 from (by decide))) ⟨gl_V q227 q228 q229 q5 q230, by decide +kernel⟩ ⟨rfl, rfl, Nat.le_of_ble_eq_true rfl, Nat.le_of_ble_eq_true rfl⟩ (by decide) (c_R E _) rfl rfl hl.1 rfl (Nat.le_of_ble_eq_true rfl) dX8_countsOneWay_54 ⟨Nat.zero_le _, Nat.zero_le _⟩) (fun H locs hw => ?_)
      refine lv_i2l hx hb dX8_countsOneWay_57 rfl ?_
      refine lv_ladd hx hb dX8_countsOneWay_58 ?_
      refine lv_lstore (lv' := [(7, .long ((-((cu.toInt64) * (((μ.1 8 (85 + 29 * n + 6)) + (μ.1 8 (85 + 29 * n + 7))).toInt64))) + ((μ.1 8 (85 + 29 * n + 10)).toInt64))), (5, .long (((μ.1 8 (85 + 29 * n + 6)) + (μ.1 8 (85 + 29 * n + 7))).toInt64)), (0, .ref (E.1 (232))), (1, .int (nI n)), (2, .int (cu)), (3, .int (a)), (4, .int (b))]) hx hb dX8_countsOneWay_59 hl (by decide) rfl (fun ls hl => ?_)
      refine lv_lconst (v := 1) hx hb dX8_countsOneWay_61 (by decide) ?_
      refine lv_aload_n hx hb dX8_countsOneWay_62 rfl (lv_at hl 2 rfl) ?_
      refine g_f hw hf (by decide) (c_R E _) rfl inlX8 0 (by decide) rfl q90 rfl dX8_countsOneWay_63 ?_
      refine lv_iconst (v := 5) hx hb dX8_countsOneWay_66 (by decide) ?_
      refine g_a hw hf (by decide) (c_Rs E _) (vp_lit 5 259 (by decide) (by decide)) (tr_at (y := 5) (by decide) (by decide)) dX8_countsOneWay_67 ?_
      refine lv_lshl hx hb dX8_countsOneWay_68 rfl ?_
      refine lv_lstore (lv' := [(9, .long ((1 : Int64) <<< ((μ.1 8 5).toInt64 &&& 63))), (7, .long ((-((cu.toInt64) * (((μ.1 8 (85 + 29 * n + 6)) + (μ.1 8 (85 + 29 * n + 7))).toInt64))) + ((μ.1 8 (85 + 29 * n + 10)).toInt64))), (5, .long (((μ.1 8 (85 + 29 * n + 6)) + (μ.1 8 (85 + 29 * n + 7))).toInt64)), (0, .ref (E.1 (232))), (1, .int (nI n)), (2, .int (cu)), (3, .int (a)), (4, .int (b))]) hx hb dX8_countsOneWay_69 hl (by decide) rfl (fun ls hl => ?_)
      refine lv_lload hx hb dX8_countsOneWay_71 (lv_at hl 1 rfl) ?_
      refine lv_lload hx hb dX8_countsOneWay_73 (lv_at hl 0 rfl) ?_
      refine lv_lmul hx hb dX8_countsOneWay_75 ?_
      refine lv_iload_n hx hb dX8_countsOneWay_76 rfl (lv_at hl 5 rfl) ?_
      refine lv_i2l hx hb dX8_countsOneWay_77 rfl ?_
      refine lv_aload_n hx hb dX8_countsOneWay_78 rfl (lv_at hl 3 rfl) ?_
      refine g_f hw hf (by decide) (c_R E _) rfl inlX8 0 (by decide) rfl q90 rfl dX8_countsOneWay_79 ?_
      refine lv_iconst (v := 2) hx hb dX8_countsOneWay_82 (by decide) ?_
      refine g_a hw hf (by decide) (c_Rs E _) (vp_lit 2 259 (by decide) (by decide)) (tr_at (y := 2) (by decide) (by decide)) dX8_countsOneWay_83 ?_
      refine lv_i2l hx hb dX8_countsOneWay_84 rfl ?_
      refine lv_lmul hx hb dX8_countsOneWay_85 ?_
      refine lv_ldiv hx hb dX8_countsOneWay_86 (nzM hc hG.2.2.1) ?_
      refine lv_lstore (lv' := [(11, .long ((((-((cu.toInt64) * (((μ.1 8 (85 + 29 * n + 6)) + (μ.1 8 (85 + 29 * n + 7))).toInt64))) + ((μ.1 8 (85 + 29 * n + 10)).toInt64)) * ((1 : Int64) <<< ((μ.1 8 5).toInt64 &&& 63))) / ((cu.toInt64) * ((μ.1 8 2).toInt64)))), (9, .long ((1 : Int64) <<< ((μ.1 8 5).toInt64 &&& 63))), (7, .long ((-((cu.toInt64) * (((μ.1 8 (85 + 29 * n + 6)) + (μ.1 8 (85 + 29 * n + 7))).toInt64))) + ((μ.1 8 (85 + 29 * n + 10)).toInt64))), (5, .long (((μ.1 8 (85 + 29 * n + 6)) + (μ.1 8 (85 + 29 * n + 7))).toInt64)), (0, .ref (E.1 (232))), (1, .int (nI n)), (2, .int (cu)), (3, .int (a)), (4, .int (b))]) hx hb dX8_countsOneWay_87 hl (by decide) rfl (fun ls hl => ?_)
      refine lv_lload hx hb dX8_countsOneWay_89 (lv_at hl 0 rfl) ?_
      refine lv_ldc2 hx hb hf.2.2.2.1 (hf.2.2.2.2 _ q654) dX8_countsOneWay_91 ?_
      refine lv_lload hx hb dX8_countsOneWay_94 (lv_at hl 1 rfl) ?_
      refine lv_lmul hx hb dX8_countsOneWay_96 ?_
      refine W.lcmp hx hb dX8_countsOneWay_97 ?_
      refine lv_if_le (tgt := 110) hx hb dX8_countsOneWay_98 (by decide) (fun c3 => ?_) (fun c3 => ?_)
      · replace c3 := (lg_cmp_le _ _).mp c3
        refine lv_lload hx hb dX8_countsOneWay_110 (lv_at hl 0 rfl) ?_
        refine lv_ldc2 hx hb hf.2.2.2.1 (hf.2.2.2.2 _ q655) dX8_countsOneWay_112 ?_
        refine lv_lload hx hb dX8_countsOneWay_115 (lv_at hl 1 rfl) ?_
        refine lv_lmul hx hb dX8_countsOneWay_117 ?_
        refine W.lcmp hx hb dX8_countsOneWay_118 ?_
        refine lv_if_ge (tgt := 131) hx hb dX8_countsOneWay_119 (by decide) (fun c4 => ?_) (fun c4 => ?_)
        · replace c4 := (lg_cmp_ge _ _).mp c4
          refine lv_lload hx hb dX8_countsOneWay_131 (lv_at hl 0 rfl) ?_
          exact e_l hf hr hlocks hw (congrArg (fun z => (z, μ)) ((if_neg c1).trans ((if_neg c2).trans ((if_pos c3).trans ((if_pos c4).trans rfl))))) dX8_countsOneWay_133
        · replace c4 := mt (lg_cmp_ge _ _).mpr c4
          refine lv_ldc2 hx hb hf.2.2.2.1 (hf.2.2.2.2 _ q655) dX8_countsOneWay_122 ?_
          refine lv_lload hx hb dX8_countsOneWay_125 (lv_at hl 1 rfl) ?_
          refine lv_lmul hx hb dX8_countsOneWay_127 ?_
          refine lv_goto (tgt := 133) hx hb dX8_countsOneWay_128 (by decide) ?_
          exact e_l hf hr hlocks hw (congrArg (fun z => (z, μ)) ((if_neg c1).trans ((if_neg c2).trans ((if_pos c3).trans ((if_neg c4).trans rfl))))) dX8_countsOneWay_133
      · replace c3 := mt (lg_cmp_le _ _).mpr c3
        refine lv_ldc2 hx hb hf.2.2.2.1 (hf.2.2.2.2 _ q654) dX8_countsOneWay_101 ?_
        refine lv_lload hx hb dX8_countsOneWay_104 (lv_at hl 1 rfl) ?_
        refine lv_lmul hx hb dX8_countsOneWay_106 ?_
        refine lv_goto (tgt := 133) hx hb dX8_countsOneWay_107 (by decide) ?_
        exact e_l hf hr hlocks hw (congrArg (fun z => (z, μ)) ((if_neg c1).trans ((if_neg c2).trans ((if_neg c3).trans rfl)))) dX8_countsOneWay_133
    · refine lv_iload_n hx hb dX8_countsOneWay_36 rfl (lv_at hl 3 rfl) ?_
      refine lv_i2l hx hb dX8_countsOneWay_37 rfl ?_
      refine lv_lload hx hb dX8_countsOneWay_38 (lv_at hl 0 rfl) ?_
      refine lv_lmul hx hb dX8_countsOneWay_40 ?_
      refine lv_goto (tgt := 50) hx hb dX8_countsOneWay_41 (by decide) ?_
      refine lv_aload_n hx hb dX8_countsOneWay_50 rfl (lv_at hl 1 rfl) ?_
      refine lv_iload_n hx hb dX8_countsOneWay_51 rfl (lv_at hl 2 rfl) ?_
      refine lv_bipush (v := 10) hx hb dX8_countsOneWay_52 (by decide) ?_
      refine c_iR hw (run_V (As := [.int (nI n), .int 10]) (rest := [.long ((cu.toInt64) * (((μ.1 8 (85 + 29 * n + 6)) + (μ.1 8 (85 + 29 * n + 7))).toInt64))]) (np := 2) hf hw (kn_X8_of l E _  n 10  (show n < 6 from hn) (show 10 < 29 from (by decide))) ⟨gl_V q227 q228 q229 q5 q230, by decide +kernel⟩ ⟨rfl, rfl, Nat.le_of_ble_eq_true rfl, Nat.le_of_ble_eq_true rfl⟩ (by decide) (c_R E _) rfl rfl hl.1 rfl (Nat.le_of_ble_eq_true rfl) dX8_countsOneWay_54 ⟨Nat.zero_le _, Nat.zero_le _⟩) (fun H locs hw => ?_)
      refine lv_i2l hx hb dX8_countsOneWay_57 rfl ?_
      refine lv_ladd hx hb dX8_countsOneWay_58 ?_
      refine lv_lstore (lv' := [(7, .long (((cu.toInt64) * (((μ.1 8 (85 + 29 * n + 6)) + (μ.1 8 (85 + 29 * n + 7))).toInt64)) + ((μ.1 8 (85 + 29 * n + 10)).toInt64))), (5, .long (((μ.1 8 (85 + 29 * n + 6)) + (μ.1 8 (85 + 29 * n + 7))).toInt64)), (0, .ref (E.1 (232))), (1, .int (nI n)), (2, .int (cu)), (3, .int (a)), (4, .int (b))]) hx hb dX8_countsOneWay_59 hl (by decide) rfl (fun ls hl => ?_)
      refine lv_lconst (v := 1) hx hb dX8_countsOneWay_61 (by decide) ?_
      refine lv_aload_n hx hb dX8_countsOneWay_62 rfl (lv_at hl 2 rfl) ?_
      refine g_f hw hf (by decide) (c_R E _) rfl inlX8 0 (by decide) rfl q90 rfl dX8_countsOneWay_63 ?_
      refine lv_iconst (v := 5) hx hb dX8_countsOneWay_66 (by decide) ?_
      refine g_a hw hf (by decide) (c_Rs E _) (vp_lit 5 259 (by decide) (by decide)) (tr_at (y := 5) (by decide) (by decide)) dX8_countsOneWay_67 ?_
      refine lv_lshl hx hb dX8_countsOneWay_68 rfl ?_
      refine lv_lstore (lv' := [(9, .long ((1 : Int64) <<< ((μ.1 8 5).toInt64 &&& 63))), (7, .long (((cu.toInt64) * (((μ.1 8 (85 + 29 * n + 6)) + (μ.1 8 (85 + 29 * n + 7))).toInt64)) + ((μ.1 8 (85 + 29 * n + 10)).toInt64))), (5, .long (((μ.1 8 (85 + 29 * n + 6)) + (μ.1 8 (85 + 29 * n + 7))).toInt64)), (0, .ref (E.1 (232))), (1, .int (nI n)), (2, .int (cu)), (3, .int (a)), (4, .int (b))]) hx hb dX8_countsOneWay_69 hl (by decide) rfl (fun ls hl => ?_)
      refine lv_lload hx hb dX8_countsOneWay_71 (lv_at hl 1 rfl) ?_
      refine lv_lload hx hb dX8_countsOneWay_73 (lv_at hl 0 rfl) ?_
      refine lv_lmul hx hb dX8_countsOneWay_75 ?_
      refine lv_iload_n hx hb dX8_countsOneWay_76 rfl (lv_at hl 5 rfl) ?_
      refine lv_i2l hx hb dX8_countsOneWay_77 rfl ?_
      refine lv_aload_n hx hb dX8_countsOneWay_78 rfl (lv_at hl 3 rfl) ?_
      refine g_f hw hf (by decide) (c_R E _) rfl inlX8 0 (by decide) rfl q90 rfl dX8_countsOneWay_79 ?_
      refine lv_iconst (v := 2) hx hb dX8_countsOneWay_82 (by decide) ?_
      refine g_a hw hf (by decide) (c_Rs E _) (vp_lit 2 259 (by decide) (by decide)) (tr_at (y := 2) (by decide) (by decide)) dX8_countsOneWay_83 ?_
      refine lv_i2l hx hb dX8_countsOneWay_84 rfl ?_
      refine lv_lmul hx hb dX8_countsOneWay_85 ?_
      refine lv_ldiv hx hb dX8_countsOneWay_86 (nzM hc hG.2.2.1) ?_
      refine lv_lstore (lv' := [(11, .long (((((cu.toInt64) * (((μ.1 8 (85 + 29 * n + 6)) + (μ.1 8 (85 + 29 * n + 7))).toInt64)) + ((μ.1 8 (85 + 29 * n + 10)).toInt64)) * ((1 : Int64) <<< ((μ.1 8 5).toInt64 &&& 63))) / ((cu.toInt64) * ((μ.1 8 2).toInt64)))), (9, .long ((1 : Int64) <<< ((μ.1 8 5).toInt64 &&& 63))), (7, .long (((cu.toInt64) * (((μ.1 8 (85 + 29 * n + 6)) + (μ.1 8 (85 + 29 * n + 7))).toInt64)) + ((μ.1 8 (85 + 29 * n + 10)).toInt64))), (5, .long (((μ.1 8 (85 + 29 * n + 6)) + (μ.1 8 (85 + 29 * n + 7))).toInt64)), (0, .ref (E.1 (232))), (1, .int (nI n)), (2, .int (cu)), (3, .int (a)), (4, .int (b))]) hx hb dX8_countsOneWay_87 hl (by decide) rfl (fun ls hl => ?_)
      refine lv_lload hx hb dX8_countsOneWay_89 (lv_at hl 0 rfl) ?_
      refine lv_ldc2 hx hb hf.2.2.2.1 (hf.2.2.2.2 _ q654) dX8_countsOneWay_91 ?_
      refine lv_lload hx hb dX8_countsOneWay_94 (lv_at hl 1 rfl) ?_
      refine lv_lmul hx hb dX8_countsOneWay_96 ?_
      refine W.lcmp hx hb dX8_countsOneWay_97 ?_
      refine lv_if_le (tgt := 110) hx hb dX8_countsOneWay_98 (by decide) (fun c5 => ?_) (fun c5 => ?_)
      · replace c5 := (lg_cmp_le _ _).mp c5
        refine lv_lload hx hb dX8_countsOneWay_110 (lv_at hl 0 rfl) ?_
        refine lv_ldc2 hx hb hf.2.2.2.1 (hf.2.2.2.2 _ q655) dX8_countsOneWay_112 ?_
        refine lv_lload hx hb dX8_countsOneWay_115 (lv_at hl 1 rfl) ?_
        refine lv_lmul hx hb dX8_countsOneWay_117 ?_
        refine W.lcmp hx hb dX8_countsOneWay_118 ?_
        refine lv_if_ge (tgt := 131) hx hb dX8_countsOneWay_119 (by decide) (fun c6 => ?_) (fun c6 => ?_)
        · replace c6 := (lg_cmp_ge _ _).mp c6
          refine lv_lload hx hb dX8_countsOneWay_131 (lv_at hl 0 rfl) ?_
          exact e_l hf hr hlocks hw (congrArg (fun z => (z, μ)) ((if_neg c1).trans ((if_pos c2).trans ((if_pos c5).trans ((if_pos c6).trans rfl))))) dX8_countsOneWay_133
        · replace c6 := mt (lg_cmp_ge _ _).mpr c6
          refine lv_ldc2 hx hb hf.2.2.2.1 (hf.2.2.2.2 _ q655) dX8_countsOneWay_122 ?_
          refine lv_lload hx hb dX8_countsOneWay_125 (lv_at hl 1 rfl) ?_
          refine lv_lmul hx hb dX8_countsOneWay_127 ?_
          refine lv_goto (tgt := 133) hx hb dX8_countsOneWay_128 (by decide) ?_
          exact e_l hf hr hlocks hw (congrArg (fun z => (z, μ)) ((if_neg c1).trans ((if_pos c2).trans ((if_pos c5).trans ((if_neg c6).trans rfl))))) dX8_countsOneWay_133
      · replace c5 := mt (lg_cmp_le _ _).mpr c5
        refine lv_ldc2 hx hb hf.2.2.2.1 (hf.2.2.2.2 _ q654) dX8_countsOneWay_101 ?_
        refine lv_lload hx hb dX8_countsOneWay_104 (lv_at hl 1 rfl) ?_
        refine lv_lmul hx hb dX8_countsOneWay_106 ?_
        refine lv_goto (tgt := 133) hx hb dX8_countsOneWay_107 (by decide) ?_
        exact e_l hf hr hlocks hw (congrArg (fun z => (z, μ)) ((if_neg c1).trans ((if_pos c2).trans ((if_neg c5).trans rfl)))) dX8_countsOneWay_133
  · refine lv_aload_n hx hb dX8_countsOneWay_4 rfl (lv_at hl 0 rfl) ?_
    refine lv_iload_n hx hb dX8_countsOneWay_5 rfl (lv_at hl 1 rfl) ?_
    refine lv_iload_n hx hb dX8_countsOneWay_6 rfl (lv_at hl 2 rfl) ?_
    refine c_lR hw (run_V (As := [.int (nI n), .int (cu)]) (rest := []) (np := 2) hf hw (k_X8_loop l E _  n cu  hG hS hc) ⟨gl_V q656 q657 q658 q5 q659, by decide +kernel⟩ ⟨rfl, rfl, Nat.le_of_ble_eq_true rfl, Nat.le_of_ble_eq_true rfl⟩ (by decide) (c_R E _) rfl rfl hl.1 rfl (Nat.le_of_ble_eq_true rfl) dX8_countsOneWay_7 ⟨Nat.zero_le _, Nat.zero_le _⟩) (fun H locs hw => ?_)
    refine lv_goto (tgt := 29) hx hb dX8_countsOneWay_10 (by decide) ?_
    refine lv_lstore (lv' := [(5, .long (sp_X8_loop (μ.1 8)  n cu)), (0, .ref (E.1 (232))), (1, .int (nI n)), (2, .int (cu)), (3, .int (a)), (4, .int (b))]) hx hb dX8_countsOneWay_29 hl (by decide) rfl (fun ls hl => ?_)
    refine lv_iload hx hb dX8_countsOneWay_31 (lv_at hl 5 rfl) ?_
    refine lv_if_ne (tgt := 44) hx hb dX8_countsOneWay_33 (by decide) (fun c7 => ?_) (fun c7 => ?_)
    · refine lv_iload_n hx hb dX8_countsOneWay_44 rfl (lv_at hl 3 rfl) ?_
      refine lv_i2l hx hb dX8_countsOneWay_45 rfl ?_
      refine lv_lload hx hb dX8_countsOneWay_46 (lv_at hl 0 rfl) ?_
      refine lv_lmul hx hb dX8_countsOneWay_48 ?_
      refine lv_lneg hx hb dX8_countsOneWay_49 ?_
      refine lv_aload_n hx hb dX8_countsOneWay_50 rfl (lv_at hl 1 rfl) ?_
      refine lv_iload_n hx hb dX8_countsOneWay_51 rfl (lv_at hl 2 rfl) ?_
      refine lv_bipush (v := 10) hx hb dX8_countsOneWay_52 (by decide) ?_
      refine c_iR hw (run_V (As := [.int (nI n), .int 10]) (rest := [.long (-((cu.toInt64) * (sp_X8_loop (μ.1 8)  n cu)))]) (np := 2) hf hw (kn_X8_of l E _  n 10  (show n < 6 from hn) (show 10 < 29 from (by decide))) ⟨gl_V q227 q228 q229 q5 q230, by decide +kernel⟩ ⟨rfl, rfl, Nat.le_of_ble_eq_true rfl, Nat.le_of_ble_eq_true rfl⟩ (by decide) (c_R E _) rfl rfl hl.1 rfl (Nat.le_of_ble_eq_true rfl) dX8_countsOneWay_54 ⟨Nat.zero_le _, Nat.zero_le _⟩) (fun H locs hw => ?_)
      refine lv_i2l hx hb dX8_countsOneWay_57 rfl ?_
      refine lv_ladd hx hb dX8_countsOneWay_58 ?_
      refine lv_lstore (lv' := [(7, .long ((-((cu.toInt64) * (sp_X8_loop (μ.1 8)  n cu))) + ((μ.1 8 (85 + 29 * n + 10)).toInt64))), (5, .long (sp_X8_loop (μ.1 8)  n cu)), (0, .ref (E.1 (232))), (1, .int (nI n)), (2, .int (cu)), (3, .int (a)), (4, .int (b))]) hx hb dX8_countsOneWay_59 hl (by decide) rfl (fun ls hl => ?_)
      refine lv_lconst (v := 1) hx hb dX8_countsOneWay_61 (by decide) ?_
      refine lv_aload_n hx hb dX8_countsOneWay_62 rfl (lv_at hl 2 rfl) ?_
      refine g_f hw hf (by decide) (c_R E _) rfl inlX8 0 (by decide) rfl q90 rfl dX8_countsOneWay_63 ?_
      refine lv_iconst (v := 5) hx hb dX8_countsOneWay_66 (by decide) ?_
      refine g_a hw hf (by decide) (c_Rs E _) (vp_lit 5 259 (by decide) (by decide)) (tr_at (y := 5) (by decide) (by decide)) dX8_countsOneWay_67 ?_
      refine lv_lshl hx hb dX8_countsOneWay_68 rfl ?_
      refine lv_lstore (lv' := [(9, .long ((1 : Int64) <<< ((μ.1 8 5).toInt64 &&& 63))), (7, .long ((-((cu.toInt64) * (sp_X8_loop (μ.1 8)  n cu))) + ((μ.1 8 (85 + 29 * n + 10)).toInt64))), (5, .long (sp_X8_loop (μ.1 8)  n cu)), (0, .ref (E.1 (232))), (1, .int (nI n)), (2, .int (cu)), (3, .int (a)), (4, .int (b))]) hx hb dX8_countsOneWay_69 hl (by decide) rfl (fun ls hl => ?_)
      refine lv_lload hx hb dX8_countsOneWay_71 (lv_at hl 1 rfl) ?_
      refine lv_lload hx hb dX8_countsOneWay_73 (lv_at hl 0 rfl) ?_
      refine lv_lmul hx hb dX8_countsOneWay_75 ?_
      refine lv_iload_n hx hb dX8_countsOneWay_76 rfl (lv_at hl 5 rfl) ?_
      refine lv_i2l hx hb dX8_countsOneWay_77 rfl ?_
      refine lv_aload_n hx hb dX8_countsOneWay_78 rfl (lv_at hl 3 rfl) ?_
      refine g_f hw hf (by decide) (c_R E _) rfl inlX8 0 (by decide) rfl q90 rfl dX8_countsOneWay_79 ?_
      refine lv_iconst (v := 2) hx hb dX8_countsOneWay_82 (by decide) ?_
      refine g_a hw hf (by decide) (c_Rs E _) (vp_lit 2 259 (by decide) (by decide)) (tr_at (y := 2) (by decide) (by decide)) dX8_countsOneWay_83 ?_
      refine lv_i2l hx hb dX8_countsOneWay_84 rfl ?_
      refine lv_lmul hx hb dX8_countsOneWay_85 ?_
      refine lv_ldiv hx hb dX8_countsOneWay_86 (nzM hc hG.2.2.1) ?_
      refine lv_lstore (lv' := [(11, .long ((((-((cu.toInt64) * (sp_X8_loop (μ.1 8)  n cu))) + ((μ.1 8 (85 + 29 * n + 10)).toInt64)) * ((1 : Int64) <<< ((μ.1 8 5).toInt64 &&& 63))) / ((cu.toInt64) * ((μ.1 8 2).toInt64)))), (9, .long ((1 : Int64) <<< ((μ.1 8 5).toInt64 &&& 63))), (7, .long ((-((cu.toInt64) * (sp_X8_loop (μ.1 8)  n cu))) + ((μ.1 8 (85 + 29 * n + 10)).toInt64))), (5, .long (sp_X8_loop (μ.1 8)  n cu)), (0, .ref (E.1 (232))), (1, .int (nI n)), (2, .int (cu)), (3, .int (a)), (4, .int (b))]) hx hb dX8_countsOneWay_87 hl (by decide) rfl (fun ls hl => ?_)
      refine lv_lload hx hb dX8_countsOneWay_89 (lv_at hl 0 rfl) ?_
      refine lv_ldc2 hx hb hf.2.2.2.1 (hf.2.2.2.2 _ q654) dX8_countsOneWay_91 ?_
      refine lv_lload hx hb dX8_countsOneWay_94 (lv_at hl 1 rfl) ?_
      refine lv_lmul hx hb dX8_countsOneWay_96 ?_
      refine W.lcmp hx hb dX8_countsOneWay_97 ?_
      refine lv_if_le (tgt := 110) hx hb dX8_countsOneWay_98 (by decide) (fun c8 => ?_) (fun c8 => ?_)
      · replace c8 := (lg_cmp_le _ _).mp c8
        refine lv_lload hx hb dX8_countsOneWay_110 (lv_at hl 0 rfl) ?_
        refine lv_ldc2 hx hb hf.2.2.2.1 (hf.2.2.2.2 _ q655) dX8_countsOneWay_112 ?_
        refine lv_lload hx hb dX8_countsOneWay_115 (lv_at hl 1 rfl) ?_
        refine lv_lmul hx hb dX8_countsOneWay_117 ?_
        refine W.lcmp hx hb dX8_countsOneWay_118 ?_
        refine lv_if_ge (tgt := 131) hx hb dX8_countsOneWay_119 (by decide) (fun c9 => ?_) (fun c9 => ?_)
        · replace c9 := (lg_cmp_ge _ _).mp c9
          refine lv_lload hx hb dX8_countsOneWay_131 (lv_at hl 0 rfl) ?_
          exact e_l hf hr hlocks hw (congrArg (fun z => (z, μ)) ((if_pos c1).trans ((if_neg c7).trans ((if_pos c8).trans ((if_pos c9).trans rfl))))) dX8_countsOneWay_133
        · replace c9 := mt (lg_cmp_ge _ _).mpr c9
          refine lv_ldc2 hx hb hf.2.2.2.1 (hf.2.2.2.2 _ q655) dX8_countsOneWay_122 ?_
          refine lv_lload hx hb dX8_countsOneWay_125 (lv_at hl 1 rfl) ?_
          refine lv_lmul hx hb dX8_countsOneWay_127 ?_
          refine lv_goto (tgt := 133) hx hb dX8_countsOneWay_128 (by decide) ?_
          exact e_l hf hr hlocks hw (congrArg (fun z => (z, μ)) ((if_pos c1).trans ((if_neg c7).trans ((if_pos c8).trans ((if_neg c9).trans rfl))))) dX8_countsOneWay_133
      · replace c8 := mt (lg_cmp_le _ _).mpr c8
        refine lv_ldc2 hx hb hf.2.2.2.1 (hf.2.2.2.2 _ q654) dX8_countsOneWay_101 ?_
        refine lv_lload hx hb dX8_countsOneWay_104 (lv_at hl 1 rfl) ?_
        refine lv_lmul hx hb dX8_countsOneWay_106 ?_
        refine lv_goto (tgt := 133) hx hb dX8_countsOneWay_107 (by decide) ?_
        exact e_l hf hr hlocks hw (congrArg (fun z => (z, μ)) ((if_pos c1).trans ((if_neg c7).trans ((if_neg c8).trans rfl)))) dX8_countsOneWay_133
    · refine lv_iload_n hx hb dX8_countsOneWay_36 rfl (lv_at hl 3 rfl) ?_
      refine lv_i2l hx hb dX8_countsOneWay_37 rfl ?_
      refine lv_lload hx hb dX8_countsOneWay_38 (lv_at hl 0 rfl) ?_
      refine lv_lmul hx hb dX8_countsOneWay_40 ?_
      refine lv_goto (tgt := 50) hx hb dX8_countsOneWay_41 (by decide) ?_
      refine lv_aload_n hx hb dX8_countsOneWay_50 rfl (lv_at hl 1 rfl) ?_
      refine lv_iload_n hx hb dX8_countsOneWay_51 rfl (lv_at hl 2 rfl) ?_
      refine lv_bipush (v := 10) hx hb dX8_countsOneWay_52 (by decide) ?_
      refine c_iR hw (run_V (As := [.int (nI n), .int 10]) (rest := [.long ((cu.toInt64) * (sp_X8_loop (μ.1 8)  n cu))]) (np := 2) hf hw (kn_X8_of l E _  n 10  (show n < 6 from hn) (show 10 < 29 from (by decide))) ⟨gl_V q227 q228 q229 q5 q230, by decide +kernel⟩ ⟨rfl, rfl, Nat.le_of_ble_eq_true rfl, Nat.le_of_ble_eq_true rfl⟩ (by decide) (c_R E _) rfl rfl hl.1 rfl (Nat.le_of_ble_eq_true rfl) dX8_countsOneWay_54 ⟨Nat.zero_le _, Nat.zero_le _⟩) (fun H locs hw => ?_)
      refine lv_i2l hx hb dX8_countsOneWay_57 rfl ?_
      refine lv_ladd hx hb dX8_countsOneWay_58 ?_
      refine lv_lstore (lv' := [(7, .long (((cu.toInt64) * (sp_X8_loop (μ.1 8)  n cu)) + ((μ.1 8 (85 + 29 * n + 10)).toInt64))), (5, .long (sp_X8_loop (μ.1 8)  n cu)), (0, .ref (E.1 (232))), (1, .int (nI n)), (2, .int (cu)), (3, .int (a)), (4, .int (b))]) hx hb dX8_countsOneWay_59 hl (by decide) rfl (fun ls hl => ?_)
      refine lv_lconst (v := 1) hx hb dX8_countsOneWay_61 (by decide) ?_
      refine lv_aload_n hx hb dX8_countsOneWay_62 rfl (lv_at hl 2 rfl) ?_
      refine g_f hw hf (by decide) (c_R E _) rfl inlX8 0 (by decide) rfl q90 rfl dX8_countsOneWay_63 ?_
      refine lv_iconst (v := 5) hx hb dX8_countsOneWay_66 (by decide) ?_
      refine g_a hw hf (by decide) (c_Rs E _) (vp_lit 5 259 (by decide) (by decide)) (tr_at (y := 5) (by decide) (by decide)) dX8_countsOneWay_67 ?_
      refine lv_lshl hx hb dX8_countsOneWay_68 rfl ?_
      refine lv_lstore (lv' := [(9, .long ((1 : Int64) <<< ((μ.1 8 5).toInt64 &&& 63))), (7, .long (((cu.toInt64) * (sp_X8_loop (μ.1 8)  n cu)) + ((μ.1 8 (85 + 29 * n + 10)).toInt64))), (5, .long (sp_X8_loop (μ.1 8)  n cu)), (0, .ref (E.1 (232))), (1, .int (nI n)), (2, .int (cu)), (3, .int (a)), (4, .int (b))]) hx hb dX8_countsOneWay_69 hl (by decide) rfl (fun ls hl => ?_)
      refine lv_lload hx hb dX8_countsOneWay_71 (lv_at hl 1 rfl) ?_
      refine lv_lload hx hb dX8_countsOneWay_73 (lv_at hl 0 rfl) ?_
      refine lv_lmul hx hb dX8_countsOneWay_75 ?_
      refine lv_iload_n hx hb dX8_countsOneWay_76 rfl (lv_at hl 5 rfl) ?_
      refine lv_i2l hx hb dX8_countsOneWay_77 rfl ?_
      refine lv_aload_n hx hb dX8_countsOneWay_78 rfl (lv_at hl 3 rfl) ?_
      refine g_f hw hf (by decide) (c_R E _) rfl inlX8 0 (by decide) rfl q90 rfl dX8_countsOneWay_79 ?_
      refine lv_iconst (v := 2) hx hb dX8_countsOneWay_82 (by decide) ?_
      refine g_a hw hf (by decide) (c_Rs E _) (vp_lit 2 259 (by decide) (by decide)) (tr_at (y := 2) (by decide) (by decide)) dX8_countsOneWay_83 ?_
      refine lv_i2l hx hb dX8_countsOneWay_84 rfl ?_
      refine lv_lmul hx hb dX8_countsOneWay_85 ?_
      refine lv_ldiv hx hb dX8_countsOneWay_86 (nzM hc hG.2.2.1) ?_
      refine lv_lstore (lv' := [(11, .long (((((cu.toInt64) * (sp_X8_loop (μ.1 8)  n cu)) + ((μ.1 8 (85 + 29 * n + 10)).toInt64)) * ((1 : Int64) <<< ((μ.1 8 5).toInt64 &&& 63))) / ((cu.toInt64) * ((μ.1 8 2).toInt64)))), (9, .long ((1 : Int64) <<< ((μ.1 8 5).toInt64 &&& 63))), (7, .long (((cu.toInt64) * (sp_X8_loop (μ.1 8)  n cu)) + ((μ.1 8 (85 + 29 * n + 10)).toInt64))), (5, .long (sp_X8_loop (μ.1 8)  n cu)), (0, .ref (E.1 (232))), (1, .int (nI n)), (2, .int (cu)), (3, .int (a)), (4, .int (b))]) hx hb dX8_countsOneWay_87 hl (by decide) rfl (fun ls hl => ?_)
      refine lv_lload hx hb dX8_countsOneWay_89 (lv_at hl 0 rfl) ?_
      refine lv_ldc2 hx hb hf.2.2.2.1 (hf.2.2.2.2 _ q654) dX8_countsOneWay_91 ?_
      refine lv_lload hx hb dX8_countsOneWay_94 (lv_at hl 1 rfl) ?_
      refine lv_lmul hx hb dX8_countsOneWay_96 ?_
      refine W.lcmp hx hb dX8_countsOneWay_97 ?_
      refine lv_if_le (tgt := 110) hx hb dX8_countsOneWay_98 (by decide) (fun c10 => ?_) (fun c10 => ?_)
      · replace c10 := (lg_cmp_le _ _).mp c10
        refine lv_lload hx hb dX8_countsOneWay_110 (lv_at hl 0 rfl) ?_
        refine lv_ldc2 hx hb hf.2.2.2.1 (hf.2.2.2.2 _ q655) dX8_countsOneWay_112 ?_
        refine lv_lload hx hb dX8_countsOneWay_115 (lv_at hl 1 rfl) ?_
        refine lv_lmul hx hb dX8_countsOneWay_117 ?_
        refine W.lcmp hx hb dX8_countsOneWay_118 ?_
        refine lv_if_ge (tgt := 131) hx hb dX8_countsOneWay_119 (by decide) (fun c11 => ?_) (fun c11 => ?_)
        · replace c11 := (lg_cmp_ge _ _).mp c11
          refine lv_lload hx hb dX8_countsOneWay_131 (lv_at hl 0 rfl) ?_
          exact e_l hf hr hlocks hw (congrArg (fun z => (z, μ)) ((if_pos c1).trans ((if_pos c7).trans ((if_pos c10).trans ((if_pos c11).trans rfl))))) dX8_countsOneWay_133
        · replace c11 := mt (lg_cmp_ge _ _).mpr c11
          refine lv_ldc2 hx hb hf.2.2.2.1 (hf.2.2.2.2 _ q655) dX8_countsOneWay_122 ?_
          refine lv_lload hx hb dX8_countsOneWay_125 (lv_at hl 1 rfl) ?_
          refine lv_lmul hx hb dX8_countsOneWay_127 ?_
          refine lv_goto (tgt := 133) hx hb dX8_countsOneWay_128 (by decide) ?_
          exact e_l hf hr hlocks hw (congrArg (fun z => (z, μ)) ((if_pos c1).trans ((if_pos c7).trans ((if_pos c10).trans ((if_neg c11).trans rfl))))) dX8_countsOneWay_133
      · replace c10 := mt (lg_cmp_le _ _).mpr c10
        refine lv_ldc2 hx hb hf.2.2.2.1 (hf.2.2.2.2 _ q654) dX8_countsOneWay_101 ?_
        refine lv_lload hx hb dX8_countsOneWay_104 (lv_at hl 1 rfl) ?_
        refine lv_lmul hx hb dX8_countsOneWay_106 ?_
        refine lv_goto (tgt := 133) hx hb dX8_countsOneWay_107 (by decide) ?_
        exact e_l hf hr hlocks hw (congrArg (fun z => (z, μ)) ((if_pos c1).trans ((if_pos c7).trans ((if_neg c10).trans rfl)))) dX8_countsOneWay_133
def sp_X8_countsOf (g : Nat → Int32)  (n : Nat) (cu : Int32) (a : Int32) (b : Int32) : Int64 :=
  if (b : Int32) = 2 then
    ((sp_X8_countsOneWay g  n cu a (0 : Int32)) - (sp_X8_countsOneWay g  n cu a (1 : Int32))) / 2
  else
    sp_X8_countsOneWay g  n cu a b
set_option maxHeartbeats 4000000 in
set_option maxRecDepth 100000 in
theorem k_X8_countsOf (l : Launch) (E : En) (μ : Mu)  (n : Nat) (cu : Int32) (a : Int32) (b : Int32) (hG : RG (μ.1 8)) (hS : RS (μ.1 8) n) (hc : 100 ≤ cu.toInt ∧ cu.toInt ≤ 5000) : MtL l yX8_countsOf cX8_countsOf 5 ({ frames := 6, cells := 0, slots := 0, locals := 150 }) [.ref (E.1 (232)), .int (nI n), .int (cu), .int (a), .int (b)] E μ ((sp_X8_countsOf (μ.1 8) n cu a b), μ) := by
  refine mt_of (by decide +kernel) (Nat.le_of_ble_eq_true rfl) ?_
  intro p e s m args below meth c ls hf hr hlocks hl hw
  have hx := hf.1
  have hb := hf.2.1
  have hl : lv_has ls 5 [(0, .ref (E.1 (232))), (1, .int (nI n)), (2, .int (cu)), (3, .int (a)), (4, .int (b))] := hl
  have hI := hG.1
  have hn := hS.1
  have hob : oN (μ.1 8) n < 3 := (hI.2.2.2 n hn).1.2
  refine lv_iload hx hb dX8_countsOf_0 (lv_at hl 4 rfl) ?_
  refine lv_iconst (v := 2) hx hb dX8_countsOf_2 (by decide) ?_
  refine lv_icmp_ne (tgt := 28) hx hb dX8_countsOf_3 (by decide) (fun c1 => ?_) (fun c1 => ?_)
  · refine lv_aload_n hx hb dX8_countsOf_28 rfl (lv_at hl 0 rfl) ?_
    refine lv_iload_n hx hb dX8_countsOf_29 rfl (lv_at hl 1 rfl) ?_
    refine lv_iload_n hx hb dX8_countsOf_30 rfl (lv_at hl 2 rfl) ?_
    refine lv_iload_n hx hb dX8_countsOf_31 rfl (lv_at hl 3 rfl) ?_
    refine lv_iload hx hb dX8_countsOf_32 (lv_at hl 4 rfl) ?_
    refine c_lR hw (run_V (As := [.int (nI n), .int (cu), .int (a), .int (b)]) (rest := []) (np := 4) hf hw (k_X8_countsOneWay l E _  n cu a b  hG hS hc) ⟨gl_V q650 q651 q652 q5 q653, by decide +kernel⟩ ⟨rfl, rfl, Nat.le_of_ble_eq_true rfl, Nat.le_of_ble_eq_true rfl⟩ (by decide) (c_R E _) rfl rfl hl.1 rfl (Nat.le_of_ble_eq_true rfl) dX8_countsOf_34 ⟨Nat.zero_le _, Nat.zero_le _⟩) (fun H locs hw => ?_)
    exact e_l hf hr hlocks hw (congrArg (fun z => (z, μ)) ((if_neg c1).trans rfl)) dX8_countsOf_37
  · refine lv_aload_n hx hb dX8_countsOf_6 rfl (lv_at hl 0 rfl) ?_
    refine lv_iload_n hx hb dX8_countsOf_7 rfl (lv_at hl 1 rfl) ?_
    refine lv_iload_n hx hb dX8_countsOf_8 rfl (lv_at hl 2 rfl) ?_
    refine lv_iload_n hx hb dX8_countsOf_9 rfl (lv_at hl 3 rfl) ?_
    refine lv_iconst (v := 0) hx hb dX8_countsOf_10 (by decide) ?_
    refine c_lR hw (run_V (As := [.int (nI n), .int (cu), .int (a), .int 0]) (rest := []) (np := 4) hf hw (k_X8_countsOneWay l E _  n cu a (0 : Int32)  hG hS hc) ⟨gl_V q650 q651 q652 q5 q653, by decide +kernel⟩ ⟨rfl, rfl, Nat.le_of_ble_eq_true rfl, Nat.le_of_ble_eq_true rfl⟩ (by decide) (c_R E _) rfl rfl hl.1 rfl (Nat.le_of_ble_eq_true rfl) dX8_countsOf_11 ⟨Nat.zero_le _, Nat.zero_le _⟩) (fun H locs hw => ?_)
    refine lv_aload_n hx hb dX8_countsOf_14 rfl (lv_at hl 0 rfl) ?_
    refine lv_iload_n hx hb dX8_countsOf_15 rfl (lv_at hl 1 rfl) ?_
    refine lv_iload_n hx hb dX8_countsOf_16 rfl (lv_at hl 2 rfl) ?_
    refine lv_iload_n hx hb dX8_countsOf_17 rfl (lv_at hl 3 rfl) ?_
    refine lv_iconst (v := 1) hx hb dX8_countsOf_18 (by decide) ?_
    refine c_lR hw (run_V (As := [.int (nI n), .int (cu), .int (a), .int 1]) (rest := [.long (sp_X8_countsOneWay (μ.1 8)  n cu a (0 : Int32))]) (np := 4) hf hw (k_X8_countsOneWay l E _  n cu a (1 : Int32)  hG hS hc) ⟨gl_V q650 q651 q652 q5 q653, by decide +kernel⟩ ⟨rfl, rfl, Nat.le_of_ble_eq_true rfl, Nat.le_of_ble_eq_true rfl⟩ (by decide) (c_R E _) rfl rfl hl.1 rfl (Nat.le_of_ble_eq_true rfl) dX8_countsOf_19 ⟨Nat.zero_le _, Nat.zero_le _⟩) (fun H locs hw => ?_)
    refine lv_lsub hx hb dX8_countsOf_22 ?_
    refine lv_ldc2 hx hb hf.2.2.2.1 (hf.2.2.2.2 _ q649) dX8_countsOf_23 ?_
    refine lv_ldiv hx hb dX8_countsOf_26 (by decide) ?_
    exact e_l hf hr hlocks hw (congrArg (fun z => (z, μ)) ((if_pos c1).trans rfl)) dX8_countsOf_27
def sp_X8_byCounts (g : Nat → Int32)  (v : Int64) : Int64 :=
  (v * ((g 2).toInt64)) / ((1 : Int64) <<< ((g 5).toInt64 &&& 63))
set_option maxHeartbeats 4000000 in
set_option maxRecDepth 100000 in
theorem k_X8_byCounts (l : Launch) (E : En) (μ : Mu)  (v : Int64) (hG : RG (μ.1 8)) : MtL l yX8_byCounts cX8_byCounts 3 ({ frames := 0, cells := 0, slots := 0, locals := 0 }) [.ref (E.1 (232)), .long (v)] E μ ((sp_X8_byCounts (μ.1 8) v), μ) := by
  refine mt_of (by decide +kernel) (Nat.le_of_ble_eq_true rfl) ?_
  intro p e s m args below meth c ls hf hr hlocks hl hw
  have hx := hf.1
  have hb := hf.2.1
  have hl : lv_has ls 3 [(0, .ref (E.1 (232))), (1, .long (v))] := hl
  refine lv_lload_n hx hb dX8_byCounts_0 rfl (lv_at hl 1 rfl) ?_
  refine lv_aload_n hx hb dX8_byCounts_1 rfl (lv_at hl 0 rfl) ?_
  refine g_f hw hf (by decide) (c_R E _) rfl inlX8 0 (by decide) rfl q90 rfl dX8_byCounts_2 ?_
  refine lv_iconst (v := 2) hx hb dX8_byCounts_5 (by decide) ?_
  refine g_a hw hf (by decide) (c_Rs E _) (vp_lit 2 259 (by decide) (by decide)) (tr_at (y := 2) (by decide) (by decide)) dX8_byCounts_6 ?_
  refine lv_i2l hx hb dX8_byCounts_7 rfl ?_
  refine lv_lmul hx hb dX8_byCounts_8 ?_
  refine lv_lconst (v := 1) hx hb dX8_byCounts_9 (by decide) ?_
  refine lv_aload_n hx hb dX8_byCounts_10 rfl (lv_at hl 0 rfl) ?_
  refine g_f hw hf (by decide) (c_R E _) rfl inlX8 0 (by decide) rfl q90 rfl dX8_byCounts_11 ?_
  refine lv_iconst (v := 5) hx hb dX8_byCounts_14 (by decide) ?_
  refine g_a hw hf (by decide) (c_Rs E _) (vp_lit 5 259 (by decide) (by decide)) (tr_at (y := 5) (by decide) (by decide)) dX8_byCounts_15 ?_
  refine lv_lshl hx hb dX8_byCounts_16 rfl ?_
  refine lv_ldiv hx hb dX8_byCounts_17 (nzB hG.2.2.2.2.2) ?_
  exact e_l hf hr hlocks hw (congrArg (fun z => (z, μ)) rfl) dX8_byCounts_18
def sp_X8_compensated (g : Nat → Int32)  (n : Nat) (cu : Int32) : Int64 :=
  if ((g (85 + 29 * n + 1)) : Int32) = 3 then
    (sp_X8_byCounts g  (sp_X8_countsOf g  n cu (0 : Int32) (2 : Int32))) - (sp_X8_byCounts g  (sp_X8_countsOf g  n cu (1 : Int32) (2 : Int32)))
  else
    sp_X8_byCounts g  (sp_X8_countsOf g  n cu (0 : Int32) (2 : Int32))
set_option maxHeartbeats 4000000 in
set_option maxRecDepth 100000 in
theorem k_X8_compensated (l : Launch) (E : En) (μ : Mu)  (n : Nat) (cu : Int32) (hG : RG (μ.1 8)) (hS : RS (μ.1 8) n) (hc : 100 ≤ cu.toInt ∧ cu.toInt ≤ 5000) : MtL l yX8_compensated cX8_compensated 5 ({ frames := 7, cells := 0, slots := 0, locals := 174 }) [.ref (E.1 (232)), .int (nI n), .int (cu)] E μ ((sp_X8_compensated (μ.1 8) n cu), μ) := by
  refine mt_of (by decide +kernel) (Nat.le_of_ble_eq_true rfl) ?_
  intro p e s m args below meth c ls hf hr hlocks hl hw
  have hx := hf.1
  have hb := hf.2.1
  have hl : lv_has ls 5 [(0, .ref (E.1 (232))), (1, .int (nI n)), (2, .int (cu))] := hl
  have hI := hG.1
  have hn := hS.1
  have hob : oN (μ.1 8) n < 3 := (hI.2.2.2 n hn).1.2
  refine lv_aload_n hx hb dX8_compensated_0 rfl (lv_at hl 0 rfl) ?_
  refine lv_aload_n hx hb dX8_compensated_1 rfl (lv_at hl 0 rfl) ?_
  refine lv_iload_n hx hb dX8_compensated_2 rfl (lv_at hl 1 rfl) ?_
  refine lv_iload_n hx hb dX8_compensated_3 rfl (lv_at hl 2 rfl) ?_
  refine lv_iconst (v := 0) hx hb dX8_compensated_4 (by decide) ?_
  refine lv_iconst (v := 2) hx hb dX8_compensated_5 (by decide) ?_
  refine c_lR hw (run_V (As := [.int (nI n), .int (cu), .int 0, .int 2]) (rest := [.ref (E.1 (232))]) (np := 4) hf hw (k_X8_countsOf l E _  n cu (0 : Int32) (2 : Int32)  hG hS hc) ⟨gl_V q645 q646 q647 q5 q648, by decide +kernel⟩ ⟨rfl, rfl, Nat.le_of_ble_eq_true rfl, Nat.le_of_ble_eq_true rfl⟩ (by decide) (c_R E _) rfl rfl hl.1 rfl (Nat.le_of_ble_eq_true rfl) dX8_compensated_6 ⟨Nat.zero_le _, Nat.zero_le _⟩) (fun H locs hw => ?_)
  refine c_lR hw (run_V (As := [.long (sp_X8_countsOf (μ.1 8)  n cu (0 : Int32) (2 : Int32))]) (rest := []) (np := 1) hf hw (k_X8_byCounts l E _  (sp_X8_countsOf (μ.1 8)  n cu (0 : Int32) (2 : Int32))  hG) ⟨gl_V q668 q669 q670 q5 q671, by decide +kernel⟩ ⟨rfl, rfl, Nat.le_of_ble_eq_true rfl, Nat.le_of_ble_eq_true rfl⟩ (by decide) (c_R E _) rfl rfl hl.1 rfl (Nat.le_of_ble_eq_true rfl) dX8_compensated_9 ⟨Nat.zero_le _, Nat.zero_le _⟩) (fun H locs hw => ?_)
  refine lv_lstore_n (lv' := [(3, .long (sp_X8_byCounts (μ.1 8)  (sp_X8_countsOf (μ.1 8)  n cu (0 : Int32) (2 : Int32)))), (0, .ref (E.1 (232))), (1, .int (nI n)), (2, .int (cu))]) hx hb dX8_compensated_12 rfl hl (by decide) rfl (fun ls hl => ?_)
  refine lv_aload_n hx hb dX8_compensated_13 rfl (lv_at hl 1 rfl) ?_
  refine lv_iload_n hx hb dX8_compensated_14 rfl (lv_at hl 2 rfl) ?_
  refine lv_iconst (v := 1) hx hb dX8_compensated_15 (by decide) ?_
  refine c_iR hw (run_V (As := [.int (nI n), .int 1]) (rest := []) (np := 2) hf hw (kn_X8_of l E _  n 1  (show n < 6 from hn) (show 1 < 29 from (by decide))) ⟨gl_V q227 q228 q229 q5 q230, by decide +kernel⟩ ⟨rfl, rfl, Nat.le_of_ble_eq_true rfl, Nat.le_of_ble_eq_true rfl⟩ (by decide) (c_R E _) rfl rfl hl.1 rfl (Nat.le_of_ble_eq_true rfl) dX8_compensated_16 ⟨Nat.zero_le _, Nat.zero_le _⟩) (fun H locs hw => ?_)
  refine lv_iconst (v := 3) hx hb dX8_compensated_19 (by decide) ?_
  refine lv_icmp_ne (tgt := 40) hx hb dX8_compensated_20 (by decide) (fun c1 => ?_) (fun c1 => ?_)
  · refine lv_lload_n hx hb dX8_compensated_40 rfl (lv_at hl 0 rfl) ?_
    exact e_l hf hr hlocks hw (congrArg (fun z => (z, μ)) ((if_neg c1).trans rfl)) dX8_compensated_41
  · refine lv_lload_n hx hb dX8_compensated_23 rfl (lv_at hl 0 rfl) ?_
    refine lv_aload_n hx hb dX8_compensated_24 rfl (lv_at hl 1 rfl) ?_
    refine lv_aload_n hx hb dX8_compensated_25 rfl (lv_at hl 1 rfl) ?_
    refine lv_iload_n hx hb dX8_compensated_26 rfl (lv_at hl 2 rfl) ?_
    refine lv_iload_n hx hb dX8_compensated_27 rfl (lv_at hl 3 rfl) ?_
    refine lv_iconst (v := 1) hx hb dX8_compensated_28 (by decide) ?_
    refine lv_iconst (v := 2) hx hb dX8_compensated_29 (by decide) ?_
    refine c_lR hw (run_V (As := [.int (nI n), .int (cu), .int 1, .int 2]) (rest := [.ref (E.1 (232)), .long (sp_X8_byCounts (μ.1 8)  (sp_X8_countsOf (μ.1 8)  n cu (0 : Int32) (2 : Int32)))]) (np := 4) hf hw (k_X8_countsOf l E _  n cu (1 : Int32) (2 : Int32)  hG hS hc) ⟨gl_V q645 q646 q647 q5 q648, by decide +kernel⟩ ⟨rfl, rfl, Nat.le_of_ble_eq_true rfl, Nat.le_of_ble_eq_true rfl⟩ (by decide) (c_R E _) rfl rfl hl.1 rfl (Nat.le_of_ble_eq_true rfl) dX8_compensated_30 ⟨Nat.zero_le _, Nat.zero_le _⟩) (fun H locs hw => ?_)
    refine c_lR hw (run_V (As := [.long (sp_X8_countsOf (μ.1 8)  n cu (1 : Int32) (2 : Int32))]) (rest := [.long (sp_X8_byCounts (μ.1 8)  (sp_X8_countsOf (μ.1 8)  n cu (0 : Int32) (2 : Int32)))]) (np := 1) hf hw (k_X8_byCounts l E _  (sp_X8_countsOf (μ.1 8)  n cu (1 : Int32) (2 : Int32))  hG) ⟨gl_V q668 q669 q670 q5 q671, by decide +kernel⟩ ⟨rfl, rfl, Nat.le_of_ble_eq_true rfl, Nat.le_of_ble_eq_true rfl⟩ (by decide) (c_R E _) rfl rfl hl.1 rfl (Nat.le_of_ble_eq_true rfl) dX8_compensated_33 ⟨Nat.zero_le _, Nat.zero_le _⟩) (fun H locs hw => ?_)
    refine lv_lsub hx hb dX8_compensated_36 ?_
    refine lv_goto (tgt := 41) hx hb dX8_compensated_37 (by decide) ?_
    exact e_l hf hr hlocks hw (congrArg (fun z => (z, μ)) ((if_pos c1).trans rfl)) dX8_compensated_41
def sp_X8_without (g : Nat → Int32)  (n : Nat) : Int64 :=
  if ((g 3).toInt64 : Int64) = (g 4).toInt64 then
    if ((-2000000000) : Int64) ≤ sp_X8_compensated g  n (g 3) then
      if (sp_X8_compensated g  n (g 3) : Int64) ≤ 2000000000 then
        sp_X8_compensated g  n (g 3)
      else
        2000000000
    else
      (-2000000000)
  else
    if ((-2000000000) : Int64) ≤ (sp_X8_compensated g  n (g 3)) - (((((sp_X8_compensated g  n (g 4)) - (sp_X8_compensated g  n (g 3))) * ((g 3).toInt64)) * ((g 3).toInt64)) / ((((g 4).toInt64) * ((g 4).toInt64)) - (((g 3).toInt64) * ((g 3).toInt64)))) then
      if ((sp_X8_compensated g  n (g 3)) - (((((sp_X8_compensated g  n (g 4)) - (sp_X8_compensated g  n (g 3))) * ((g 3).toInt64)) * ((g 3).toInt64)) / ((((g 4).toInt64) * ((g 4).toInt64)) - (((g 3).toInt64) * ((g 3).toInt64)))) : Int64) ≤ 2000000000 then
        (sp_X8_compensated g  n (g 3)) - (((((sp_X8_compensated g  n (g 4)) - (sp_X8_compensated g  n (g 3))) * ((g 3).toInt64)) * ((g 3).toInt64)) / ((((g 4).toInt64) * ((g 4).toInt64)) - (((g 3).toInt64) * ((g 3).toInt64))))
      else
        2000000000
    else
      (-2000000000)
set_option maxHeartbeats 4000000 in
set_option maxRecDepth 100000 in
theorem k_X8_without (l : Launch) (E : En) (μ : Mu)  (n : Nat) (hG : RG (μ.1 8)) (hS : RS (μ.1 8) n) : MtL l yX8_without cX8_without 12 ({ frames := 8, cells := 0, slots := 0, locals := 198 }) [.ref (E.1 (232)), .int (nI n)] E μ ((sp_X8_without (μ.1 8) n), μ) := by
  refine mt_of (by decide +kernel) (Nat.le_of_ble_eq_true rfl) ?_
  intro p e s m args below meth c ls hf hr hlocks hl hw
  have hx := hf.1
  have hb := hf.2.1
  have hl : lv_has ls 12 [(0, .ref (E.1 (232))), (1, .int (nI n))] := hl
  have hI := hG.1
  have hn := hS.1
  have hob : oN (μ.1 8) n < 3 := (hI.2.2.2 n hn).1.2
  refine lv_aload_n hx hb dX8_without_0 rfl (lv_at hl 0 rfl) ?_
  refine g_f hw hf (by decide) (c_R E _) rfl inlX8 0 (by decide) rfl q90 rfl dX8_without_1 ?_
  refine lv_iconst (v := 3) hx hb dX8_without_4 (by decide) ?_
  refine g_a hw hf (by decide) (c_Rs E _) (vp_lit 3 259 (by decide) (by decide)) (tr_at (y := 3) (by decide) (by decide)) dX8_without_5 ?_
  refine lv_i2l hx hb dX8_without_6 rfl ?_
  refine lv_lstore_n (lv' := [(2, .long ((μ.1 8 3).toInt64)), (0, .ref (E.1 (232))), (1, .int (nI n))]) hx hb dX8_without_7 rfl hl (by decide) rfl (fun ls hl => ?_)
  refine lv_aload_n hx hb dX8_without_8 rfl (lv_at hl 1 rfl) ?_
  refine g_f hw hf (by decide) (c_R E _) rfl inlX8 0 (by decide) rfl q90 rfl dX8_without_9 ?_
  refine lv_iconst (v := 4) hx hb dX8_without_12 (by decide) ?_
  refine g_a hw hf (by decide) (c_Rs E _) (vp_lit 4 259 (by decide) (by decide)) (tr_at (y := 4) (by decide) (by decide)) dX8_without_13 ?_
  refine lv_i2l hx hb dX8_without_14 rfl ?_
  refine lv_lstore (lv' := [(4, .long ((μ.1 8 4).toInt64)), (2, .long ((μ.1 8 3).toInt64)), (0, .ref (E.1 (232))), (1, .int (nI n))]) hx hb dX8_without_15 hl (by decide) rfl (fun ls hl => ?_)
  refine lv_aload_n hx hb dX8_without_17 rfl (lv_at hl 2 rfl) ?_
  refine lv_iload_n hx hb dX8_without_18 rfl (lv_at hl 3 rfl) ?_
  refine lv_aload_n hx hb dX8_without_19 rfl (lv_at hl 2 rfl) ?_
  refine g_f hw hf (by decide) (c_R E _) rfl inlX8 0 (by decide) rfl q90 rfl dX8_without_20 ?_
  refine lv_iconst (v := 3) hx hb dX8_without_23 (by decide) ?_
  refine g_a hw hf (by decide) (c_Rs E _) (vp_lit 3 259 (by decide) (by decide)) (tr_at (y := 3) (by decide) (by decide)) dX8_without_24 ?_
  refine c_lR hw (run_V (As := [.int (nI n), .int (μ.1 8 3)]) (rest := []) (np := 2) hf hw (k_X8_compensated l E _  n (μ.1 8 3)  hG hS hG.2.2.2.1) ⟨gl_V q641 q642 q643 q5 q644, by decide +kernel⟩ ⟨rfl, rfl, Nat.le_of_ble_eq_true rfl, Nat.le_of_ble_eq_true rfl⟩ (by decide) (c_R E _) rfl rfl hl.1 rfl (Nat.le_of_ble_eq_true rfl) dX8_without_25 ⟨Nat.zero_le _, Nat.zero_le _⟩) (fun H locs hw => ?_)
  refine lv_lstore (lv' := [(6, .long (sp_X8_compensated (μ.1 8)  n (μ.1 8 3))), (4, .long ((μ.1 8 4).toInt64)), (2, .long ((μ.1 8 3).toInt64)), (0, .ref (E.1 (232))), (1, .int (nI n))]) hx hb dX8_without_28 hl (by decide) rfl (fun ls hl => ?_)
  refine lv_aload_n hx hb dX8_without_30 rfl (lv_at hl 3 rfl) ?_
  refine lv_iload_n hx hb dX8_without_31 rfl (lv_at hl 4 rfl) ?_
  refine lv_aload_n hx hb dX8_without_32 rfl (lv_at hl 3 rfl) ?_
  refine g_f hw hf (by decide) (c_R E _) rfl inlX8 0 (by decide) rfl q90 rfl dX8_without_33 ?_
  refine lv_iconst (v := 4) hx hb dX8_without_36 (by decide) ?_
  refine g_a hw hf (by decide) (c_Rs E _) (vp_lit 4 259 (by decide) (by decide)) (tr_at (y := 4) (by decide) (by decide)) dX8_without_37 ?_
  refine c_lR hw (run_V (As := [.int (nI n), .int (μ.1 8 4)]) (rest := []) (np := 2) hf hw (k_X8_compensated l E _  n (μ.1 8 4)  hG hS hG.2.2.2.2.1) ⟨gl_V q641 q642 q643 q5 q644, by decide +kernel⟩ ⟨rfl, rfl, Nat.le_of_ble_eq_true rfl, Nat.le_of_ble_eq_true rfl⟩ (by decide) (c_R E _) rfl rfl hl.1 rfl (Nat.le_of_ble_eq_true rfl) dX8_without_38 ⟨Nat.zero_le _, Nat.zero_le _⟩) (fun H locs hw => ?_)
  refine lv_lstore (lv' := [(8, .long (sp_X8_compensated (μ.1 8)  n (μ.1 8 4))), (6, .long (sp_X8_compensated (μ.1 8)  n (μ.1 8 3))), (4, .long ((μ.1 8 4).toInt64)), (2, .long ((μ.1 8 3).toInt64)), (0, .ref (E.1 (232))), (1, .int (nI n))]) hx hb dX8_without_41 hl (by decide) rfl (fun ls hl => ?_)
  refine lv_lload_n hx hb dX8_without_43 rfl (lv_at hl 3 rfl) ?_
  refine lv_lload hx hb dX8_without_44 (lv_at hl 2 rfl) ?_
  refine W.lcmp hx hb dX8_without_46 ?_
  refine lv_if_ne (tgt := 55) hx hb dX8_without_47 (by decide) (fun c1 => ?_) (fun c1 => ?_)
  · replace c1 := mt (lgc_eq).mpr c1
    refine lv_lload hx hb dX8_without_55 (lv_at hl 1 rfl) ?_
    refine lv_lload hx hb dX8_without_57 (lv_at hl 0 rfl) ?_
    refine lv_lload hx hb dX8_without_59 (lv_at hl 1 rfl) ?_
    refine lv_lsub hx hb dX8_without_61 ?_
    refine lv_lload_n hx hb dX8_without_62 rfl (lv_at hl 3 rfl) ?_
    refine lv_lmul hx hb dX8_without_63 ?_
    refine lv_lload_n hx hb dX8_without_64 rfl (lv_at hl 3 rfl) ?_
    refine lv_lmul hx hb dX8_without_65 ?_
    refine lv_lload hx hb dX8_without_66 (lv_at hl 2 rfl) ?_
    refine lv_lload hx hb dX8_without_68 (lv_at hl 2 rfl) ?_
    refine lv_lmul hx hb dX8_without_70 ?_
    refine lv_lload_n hx hb dX8_without_71 rfl (lv_at hl 3 rfl) ?_
    refine lv_lload_n hx hb dX8_without_72 rfl (lv_at hl 3 rfl) ?_
    refine lv_lmul hx hb dX8_without_73 ?_
    refine lv_lsub hx hb dX8_without_74 ?_
    refine lv_ldiv hx hb dX8_without_75 (nzS hG.2.2.2.1 hG.2.2.2.2.1 c1) ?_
    refine lv_lsub hx hb dX8_without_76 ?_
    refine lv_lstore (lv' := [(10, .long ((sp_X8_compensated (μ.1 8)  n (μ.1 8 3)) - (((((sp_X8_compensated (μ.1 8)  n (μ.1 8 4)) - (sp_X8_compensated (μ.1 8)  n (μ.1 8 3))) * ((μ.1 8 3).toInt64)) * ((μ.1 8 3).toInt64)) / ((((μ.1 8 4).toInt64) * ((μ.1 8 4).toInt64)) - (((μ.1 8 3).toInt64) * ((μ.1 8 3).toInt64)))))), (8, .long (sp_X8_compensated (μ.1 8)  n (μ.1 8 4))), (6, .long (sp_X8_compensated (μ.1 8)  n (μ.1 8 3))), (4, .long ((μ.1 8 4).toInt64)), (2, .long ((μ.1 8 3).toInt64)), (0, .ref (E.1 (232))), (1, .int (nI n))]) hx hb dX8_without_77 hl (by decide) rfl (fun ls hl => ?_)
    refine lv_lload hx hb dX8_without_79 (lv_at hl 0 rfl) ?_
    refine lv_ldc2 hx hb hf.2.2.2.1 (hf.2.2.2.2 _ q639) dX8_without_81 ?_
    refine W.lcmp hx hb dX8_without_84 ?_
    refine lv_if_ge (tgt := 94) hx hb dX8_without_85 (by decide) (fun c2 => ?_) (fun c2 => ?_)
    · replace c2 := (lg_cmp_ge _ _).mp c2
      refine lv_lload hx hb dX8_without_94 (lv_at hl 0 rfl) ?_
      refine lv_ldc2 hx hb hf.2.2.2.1 (hf.2.2.2.2 _ q640) dX8_without_96 ?_
      refine W.lcmp hx hb dX8_without_99 ?_
      refine lv_if_le (tgt := 109) hx hb dX8_without_100 (by decide) (fun c3 => ?_) (fun c3 => ?_)
      · replace c3 := (lg_cmp_le _ _).mp c3
        refine lv_lload hx hb dX8_without_109 (lv_at hl 0 rfl) ?_
        exact e_l hf hr hlocks hw (congrArg (fun z => (z, μ)) ((if_neg c1).trans ((if_pos c2).trans ((if_pos c3).trans rfl)))) dX8_without_111
      · replace c3 := mt (lg_cmp_le _ _).mpr c3
        refine lv_ldc2 hx hb hf.2.2.2.1 (hf.2.2.2.2 _ q640) dX8_without_103 ?_
        refine lv_goto (tgt := 111) hx hb dX8_without_106 (by decide) ?_
        exact e_l hf hr hlocks hw (congrArg (fun z => (z, μ)) ((if_neg c1).trans ((if_pos c2).trans ((if_neg c3).trans rfl)))) dX8_without_111
    · replace c2 := mt (lg_cmp_ge _ _).mpr c2
      refine lv_ldc2 hx hb hf.2.2.2.1 (hf.2.2.2.2 _ q639) dX8_without_88 ?_
      refine lv_goto (tgt := 111) hx hb dX8_without_91 (by decide) ?_
      exact e_l hf hr hlocks hw (congrArg (fun z => (z, μ)) ((if_neg c1).trans ((if_neg c2).trans rfl))) dX8_without_111
  · replace c1 := (lgc_eq).mp c1
    refine lv_lload hx hb dX8_without_50 (lv_at hl 1 rfl) ?_
    refine lv_goto (tgt := 77) hx hb dX8_without_52 (by decide) ?_
    refine lv_lstore (lv' := [(10, .long (sp_X8_compensated (μ.1 8)  n (μ.1 8 3))), (8, .long (sp_X8_compensated (μ.1 8)  n (μ.1 8 4))), (6, .long (sp_X8_compensated (μ.1 8)  n (μ.1 8 3))), (4, .long ((μ.1 8 4).toInt64)), (2, .long ((μ.1 8 3).toInt64)), (0, .ref (E.1 (232))), (1, .int (nI n))]) hx hb dX8_without_77 hl (by decide) rfl (fun ls hl => ?_)
    refine lv_lload hx hb dX8_without_79 (lv_at hl 0 rfl) ?_
    refine lv_ldc2 hx hb hf.2.2.2.1 (hf.2.2.2.2 _ q639) dX8_without_81 ?_
    refine W.lcmp hx hb dX8_without_84 ?_
    refine lv_if_ge (tgt := 94) hx hb dX8_without_85 (by decide) (fun c4 => ?_) (fun c4 => ?_)
    · replace c4 := (lg_cmp_ge _ _).mp c4
      refine lv_lload hx hb dX8_without_94 (lv_at hl 0 rfl) ?_
      refine lv_ldc2 hx hb hf.2.2.2.1 (hf.2.2.2.2 _ q640) dX8_without_96 ?_
      refine W.lcmp hx hb dX8_without_99 ?_
      refine lv_if_le (tgt := 109) hx hb dX8_without_100 (by decide) (fun c5 => ?_) (fun c5 => ?_)
      · replace c5 := (lg_cmp_le _ _).mp c5
        refine lv_lload hx hb dX8_without_109 (lv_at hl 0 rfl) ?_
        exact e_l hf hr hlocks hw (congrArg (fun z => (z, μ)) ((if_pos c1).trans ((if_pos c4).trans ((if_pos c5).trans rfl)))) dX8_without_111
      · replace c5 := mt (lg_cmp_le _ _).mpr c5
        refine lv_ldc2 hx hb hf.2.2.2.1 (hf.2.2.2.2 _ q640) dX8_without_103 ?_
        refine lv_goto (tgt := 111) hx hb dX8_without_106 (by decide) ?_
        exact e_l hf hr hlocks hw (congrArg (fun z => (z, μ)) ((if_pos c1).trans ((if_pos c4).trans ((if_neg c5).trans rfl)))) dX8_without_111
    · replace c4 := mt (lg_cmp_ge _ _).mpr c4
      refine lv_ldc2 hx hb hf.2.2.2.1 (hf.2.2.2.2 _ q639) dX8_without_88 ?_
      refine lv_goto (tgt := 111) hx hb dX8_without_91 (by decide) ?_
      exact e_l hf hr hlocks hw (congrArg (fun z => (z, μ)) ((if_pos c1).trans ((if_neg c4).trans rfl))) dX8_without_111
def sp_X8_isBound (g : Nat → Int32)  (n : Nat) (cu : Int32) : Int32 :=
  if (sp_X8_countsOf g  n cu (0 : Int32) (0 : Int32) : Int64) = (4 : Int64) <<< ((g 5).toInt64 &&& 63) then
    1
  else
    if (sp_X8_countsOf g  n cu (0 : Int32) (0 : Int32) : Int64) = -((4 : Int64) <<< ((g 5).toInt64 &&& 63)) then
      1
    else
      if (sp_X8_countsOf g  n cu (0 : Int32) (1 : Int32) : Int64) = (4 : Int64) <<< ((g 5).toInt64 &&& 63) then
        1
      else
        if (sp_X8_countsOf g  n cu (0 : Int32) (1 : Int32) : Int64) = -((4 : Int64) <<< ((g 5).toInt64 &&& 63)) then
          1
        else
          0
set_option maxHeartbeats 4000000 in
set_option maxRecDepth 100000 in
theorem k_X8_isBound (l : Launch) (E : En) (μ : Mu)  (n : Nat) (cu : Int32) (hG : RG (μ.1 8)) (hS : RS (μ.1 8) n) (hc : 100 ≤ cu.toInt ∧ cu.toInt ≤ 5000) : MtI l yX8_isBound cX8_isBound 9 .boolean ({ frames := 7, cells := 0, slots := 0, locals := 174 }) [.ref (E.1 (232)), .int (nI n), .int (cu)] E μ ((sp_X8_isBound (μ.1 8) n cu), μ) := by
  refine mt_of (by decide +kernel) (Nat.le_of_ble_eq_true rfl) ?_
  intro p e s m args below meth c ls hf hr hlocks hl hw
  have hx := hf.1
  have hb := hf.2.1
  have hl : lv_has ls 9 [(0, .ref (E.1 (232))), (1, .int (nI n)), (2, .int (cu))] := hl
  have hI := hG.1
  have hn := hS.1
  have hob : oN (μ.1 8) n < 3 := (hI.2.2.2 n hn).1.2
  refine lv_ldc2 hx hb hf.2.2.2.1 (hf.2.2.2.2 _ q654) dX8_isBound_0 ?_
  refine lv_aload_n hx hb dX8_isBound_3 rfl (lv_at hl 0 rfl) ?_
  refine g_f hw hf (by decide) (c_R E _) rfl inlX8 0 (by decide) rfl q90 rfl dX8_isBound_4 ?_
  refine lv_iconst (v := 5) hx hb dX8_isBound_7 (by decide) ?_
  refine g_a hw hf (by decide) (c_Rs E _) (vp_lit 5 259 (by decide) (by decide)) (tr_at (y := 5) (by decide) (by decide)) dX8_isBound_8 ?_
  refine lv_lshl hx hb dX8_isBound_9 rfl ?_
  refine lv_lstore_n (lv' := [(3, .long ((4 : Int64) <<< ((μ.1 8 5).toInt64 &&& 63))), (0, .ref (E.1 (232))), (1, .int (nI n)), (2, .int (cu))]) hx hb dX8_isBound_10 rfl hl (by decide) rfl (fun ls hl => ?_)
  refine lv_aload_n hx hb dX8_isBound_11 rfl (lv_at hl 1 rfl) ?_
  refine lv_iload_n hx hb dX8_isBound_12 rfl (lv_at hl 2 rfl) ?_
  refine lv_iload_n hx hb dX8_isBound_13 rfl (lv_at hl 3 rfl) ?_
  refine lv_iconst (v := 0) hx hb dX8_isBound_14 (by decide) ?_
  refine lv_iconst (v := 0) hx hb dX8_isBound_15 (by decide) ?_
  refine c_lR hw (run_V (As := [.int (nI n), .int (cu), .int 0, .int 0]) (rest := []) (np := 4) hf hw (k_X8_countsOf l E _  n cu (0 : Int32) (0 : Int32)  hG hS hc) ⟨gl_V q645 q646 q647 q5 q648, by decide +kernel⟩ ⟨rfl, rfl, Nat.le_of_ble_eq_true rfl, Nat.le_of_ble_eq_true rfl⟩ (by decide) (c_R E _) rfl rfl hl.1 rfl (Nat.le_of_ble_eq_true rfl) dX8_isBound_16 ⟨Nat.zero_le _, Nat.zero_le _⟩) (fun H locs hw => ?_)
  refine lv_lstore (lv' := [(5, .long (sp_X8_countsOf (μ.1 8)  n cu (0 : Int32) (0 : Int32))), (3, .long ((4 : Int64) <<< ((μ.1 8 5).toInt64 &&& 63))), (0, .ref (E.1 (232))), (1, .int (nI n)), (2, .int (cu))]) hx hb dX8_isBound_19 hl (by decide) rfl (fun ls hl => ?_)
  refine lv_aload_n hx hb dX8_isBound_21 rfl (lv_at hl 2 rfl) ?_
  refine lv_iload_n hx hb dX8_isBound_22 rfl (lv_at hl 3 rfl) ?_
  refine lv_iload_n hx hb dX8_isBound_23 rfl (lv_at hl 4 rfl) ?_
  refine lv_iconst (v := 0) hx hb dX8_isBound_24 (by decide) ?_
  refine lv_iconst (v := 1) hx hb dX8_isBound_25 (by decide) ?_
  refine c_lR hw (run_V (As := [.int (nI n), .int (cu), .int 0, .int 1]) (rest := []) (np := 4) hf hw (k_X8_countsOf l E _  n cu (0 : Int32) (1 : Int32)  hG hS hc) ⟨gl_V q645 q646 q647 q5 q648, by decide +kernel⟩ ⟨rfl, rfl, Nat.le_of_ble_eq_true rfl, Nat.le_of_ble_eq_true rfl⟩ (by decide) (c_R E _) rfl rfl hl.1 rfl (Nat.le_of_ble_eq_true rfl) dX8_isBound_26 ⟨Nat.zero_le _, Nat.zero_le _⟩) (fun H locs hw => ?_)
  refine lv_lstore (lv' := [(7, .long (sp_X8_countsOf (μ.1 8)  n cu (0 : Int32) (1 : Int32))), (5, .long (sp_X8_countsOf (μ.1 8)  n cu (0 : Int32) (0 : Int32))), (3, .long ((4 : Int64) <<< ((μ.1 8 5).toInt64 &&& 63))), (0, .ref (E.1 (232))), (1, .int (nI n)), (2, .int (cu))]) hx hb dX8_isBound_29 hl (by decide) rfl (fun ls hl => ?_)
  refine lv_lload hx hb dX8_isBound_31 (lv_at hl 1 rfl) ?_
  refine lv_lload_n hx hb dX8_isBound_33 rfl (lv_at hl 2 rfl) ?_
  refine W.lcmp hx hb dX8_isBound_34 ?_
  refine lv_if_eq (tgt := 61) hx hb dX8_isBound_35 (by decide) (fun c1 => ?_) (fun c1 => ?_)
  · replace c1 := (lgc_eq).mp c1
    refine lv_iconst (v := 1) hx hb dX8_isBound_61 (by decide) ?_
    refine lv_goto (tgt := 66) hx hb dX8_isBound_62 (by decide) ?_
    exact e_i hf hr hlocks hw rfl (congrArg (fun z => (z, μ)) ((if_pos c1).trans rfl)) dX8_isBound_66
  · replace c1 := mt (lgc_eq).mpr c1
    refine lv_lload hx hb dX8_isBound_38 (lv_at hl 1 rfl) ?_
    refine lv_lload_n hx hb dX8_isBound_40 rfl (lv_at hl 2 rfl) ?_
    refine lv_lneg hx hb dX8_isBound_41 ?_
    refine W.lcmp hx hb dX8_isBound_42 ?_
    refine lv_if_eq (tgt := 61) hx hb dX8_isBound_43 (by decide) (fun c2 => ?_) (fun c2 => ?_)
    · replace c2 := (lgc_eq).mp c2
      refine lv_iconst (v := 1) hx hb dX8_isBound_61 (by decide) ?_
      refine lv_goto (tgt := 66) hx hb dX8_isBound_62 (by decide) ?_
      exact e_i hf hr hlocks hw rfl (congrArg (fun z => (z, μ)) ((if_neg c1).trans ((if_pos c2).trans rfl))) dX8_isBound_66
    · replace c2 := mt (lgc_eq).mpr c2
      refine lv_lload hx hb dX8_isBound_46 (lv_at hl 0 rfl) ?_
      refine lv_lload_n hx hb dX8_isBound_48 rfl (lv_at hl 2 rfl) ?_
      refine W.lcmp hx hb dX8_isBound_49 ?_
      refine lv_if_eq (tgt := 61) hx hb dX8_isBound_50 (by decide) (fun c3 => ?_) (fun c3 => ?_)
      · replace c3 := (lgc_eq).mp c3
        refine lv_iconst (v := 1) hx hb dX8_isBound_61 (by decide) ?_
        refine lv_goto (tgt := 66) hx hb dX8_isBound_62 (by decide) ?_
        exact e_i hf hr hlocks hw rfl (congrArg (fun z => (z, μ)) ((if_neg c1).trans ((if_neg c2).trans ((if_pos c3).trans rfl)))) dX8_isBound_66
      · replace c3 := mt (lgc_eq).mpr c3
        refine lv_lload hx hb dX8_isBound_53 (lv_at hl 0 rfl) ?_
        refine lv_lload_n hx hb dX8_isBound_55 rfl (lv_at hl 2 rfl) ?_
        refine lv_lneg hx hb dX8_isBound_56 ?_
        refine W.lcmp hx hb dX8_isBound_57 ?_
        refine lv_if_ne (tgt := 65) hx hb dX8_isBound_58 (by decide) (fun c4 => ?_) (fun c4 => ?_)
        · replace c4 := mt (lgc_eq).mpr c4
          refine lv_iconst (v := 0) hx hb dX8_isBound_65 (by decide) ?_
          exact e_i hf hr hlocks hw rfl (congrArg (fun z => (z, μ)) ((if_neg c1).trans ((if_neg c2).trans ((if_neg c3).trans ((if_neg c4).trans rfl))))) dX8_isBound_66
        · replace c4 := (lgc_eq).mp c4
          refine lv_iconst (v := 1) hx hb dX8_isBound_61 (by decide) ?_
          refine lv_goto (tgt := 66) hx hb dX8_isBound_62 (by decide) ?_
          exact e_i hf hr hlocks hw rfl (congrArg (fun z => (z, μ)) ((if_neg c1).trans ((if_neg c2).trans ((if_neg c3).trans ((if_pos c4).trans rfl))))) dX8_isBound_66
theorem nzA {a : Int32} (h : 1000 ≤ a.toInt ∧ a.toInt ≤ 2000000) : ¬ a.toInt64 = 0 := by
  intro q
  have e := congrArg Int64.toInt q
  rw [Int32.toInt_toInt64, show (0 : Int64).toInt = 0 by decide] at e
  omega
def sp_X8_degrees (g : Nat → Int32)  (n : Nat) : Int32 :=
  sp_X8_inverseOf g  (oN g n) (((sp_X8_without g  n) * 1000000) / ((g (85 + 29 * n + 3)).toInt64))
set_option maxHeartbeats 4000000 in
set_option maxRecDepth 100000 in
theorem k_X8_degrees (l : Launch) (E : En) (μ : Mu)  (n : Nat) (hG : RG (μ.1 8)) (hS : RS (μ.1 8) n) : MtI l yX8_degrees cX8_degrees 2 .int ({ frames := 9, cells := 0, slots := 0, locals := 229 }) [.ref (E.1 (232)), .int (nI n)] E μ ((sp_X8_degrees (μ.1 8) n), μ) := by
  refine mt_of (by decide +kernel) (Nat.le_of_ble_eq_true rfl) ?_
  intro p e s m args below meth c ls hf hr hlocks hl hw
  have hx := hf.1
  have hb := hf.2.1
  have hl : lv_has ls 2 [(0, .ref (E.1 (232))), (1, .int (nI n))] := hl
  have hI := hG.1
  have hn := hS.1
  have hob : oN (μ.1 8) n < 3 := (hI.2.2.2 n hn).1.2
  refine lv_aload_n hx hb dX8_degrees_0 rfl (lv_at hl 0 rfl) ?_
  refine lv_aload_n hx hb dX8_degrees_1 rfl (lv_at hl 0 rfl) ?_
  refine lv_iload_n hx hb dX8_degrees_2 rfl (lv_at hl 1 rfl) ?_
  refine lv_iconst (v := 0) hx hb dX8_degrees_3 (by decide) ?_
  refine c_iR hw (run_V (As := [.int (nI n), .int 0]) (rest := [.ref (E.1 (232))]) (np := 2) hf hw (kn_X8_of l E _  n 0  (show n < 6 from hn) (show 0 < 29 from (by decide))) ⟨gl_V q227 q228 q229 q5 q230, by decide +kernel⟩ ⟨rfl, rfl, Nat.le_of_ble_eq_true rfl, Nat.le_of_ble_eq_true rfl⟩ (by decide) (c_R E _) rfl rfl hl.1 rfl (Nat.le_of_ble_eq_true rfl) dX8_degrees_4 ⟨Nat.zero_le _, Nat.zero_le _⟩) (fun H locs hw => ?_)
  have hb1 := (hI.2.2.2 n hn).1.2
  refine fold_i (show μ.1 8 (85 + 29 * n + 0) = nI (oN (μ.1 8) n) from (hI.2.2.2 n hn).1.1) ?_
  refine lv_aload_n hx hb dX8_degrees_7 rfl (lv_at hl 0 rfl) ?_
  refine lv_iload_n hx hb dX8_degrees_8 rfl (lv_at hl 1 rfl) ?_
  refine c_lR hw (run_V (As := [.int (nI n)]) (rest := [.int (nI (oN (μ.1 8) n)), .ref (E.1 (232))]) (np := 1) hf hw (k_X8_without l E _  n  hG hS) ⟨gl_V q635 q636 q637 q5 q638, by decide +kernel⟩ ⟨rfl, rfl, Nat.le_of_ble_eq_true rfl, Nat.le_of_ble_eq_true rfl⟩ (by decide) (c_R E _) rfl rfl hl.1 rfl (Nat.le_of_ble_eq_true rfl) dX8_degrees_9 ⟨Nat.zero_le _, Nat.zero_le _⟩) (fun H locs hw => ?_)
  refine lv_ldc2 hx hb hf.2.2.2.1 (hf.2.2.2.2 _ q507) dX8_degrees_12 ?_
  refine lv_lmul hx hb dX8_degrees_15 ?_
  refine lv_aload_n hx hb dX8_degrees_16 rfl (lv_at hl 0 rfl) ?_
  refine lv_iload_n hx hb dX8_degrees_17 rfl (lv_at hl 1 rfl) ?_
  refine lv_iconst (v := 3) hx hb dX8_degrees_18 (by decide) ?_
  refine c_iR hw (run_V (As := [.int (nI n), .int 3]) (rest := [.long ((sp_X8_without (μ.1 8)  n) * 1000000), .int (nI (oN (μ.1 8) n)), .ref (E.1 (232))]) (np := 2) hf hw (kn_X8_of l E _  n 3  (show n < 6 from hn) (show 3 < 29 from (by decide))) ⟨gl_V q227 q228 q229 q5 q230, by decide +kernel⟩ ⟨rfl, rfl, Nat.le_of_ble_eq_true rfl, Nat.le_of_ble_eq_true rfl⟩ (by decide) (c_R E _) rfl rfl hl.1 rfl (Nat.le_of_ble_eq_true rfl) dX8_degrees_19 ⟨Nat.zero_le _, Nat.zero_le _⟩) (fun H locs hw => ?_)
  refine lv_i2l hx hb dX8_degrees_22 rfl ?_
  refine lv_ldiv hx hb dX8_degrees_23 (nzA hS.2.2.2.2.1) ?_
  refine c_iR hw (run_V (As := [.int (nI (oN (μ.1 8) n)), .long (((sp_X8_without (μ.1 8)  n) * 1000000) / ((μ.1 8 (85 + 29 * n + 3)).toInt64))]) (rest := []) (np := 2) hf hw (k_X8_inverseOf l E _  (oN (μ.1 8) n) (((sp_X8_without (μ.1 8)  n) * 1000000) / ((μ.1 8 (85 + 29 * n + 3)).toInt64))  (show oN (μ.1 8) n < 3 from hob) hI (hG.2.1 _ hob).1) ⟨gl_V q289 q290 q291 q5 q292, by decide +kernel⟩ ⟨rfl, rfl, Nat.le_of_ble_eq_true rfl, Nat.le_of_ble_eq_true rfl⟩ (by decide) (c_R E _) rfl rfl hl.1 rfl (Nat.le_of_ble_eq_true rfl) dX8_degrees_24 ⟨Nat.zero_le _, Nat.zero_le _⟩) (fun H locs hw => ?_)
  exact e_i hf hr hlocks hw rfl (congrArg (fun z => (z, μ)) rfl) dX8_degrees_27
def sp_X8_size   (w : Int32) : Int32 :=
  if (0 : Int32) ≤ w then
    w
  else
    -w
set_option maxHeartbeats 4000000 in
set_option maxRecDepth 100000 in
theorem k_X8_size (l : Launch) (E : En) (μ : Mu)  (w : Int32)  : MtI l yX8_size cX8_size 1 .int ({ frames := 0, cells := 0, slots := 0, locals := 0 }) [.int (w)] E μ ((sp_X8_size  w), μ) := by
  refine mt_of (by decide +kernel) (Nat.le_of_ble_eq_true rfl) ?_
  intro p e s m args below meth c ls hf hr hlocks hl hw
  have hx := hf.1
  have hb := hf.2.1
  have hl : lv_has ls 1 [(0, .int (w))] := hl
  refine lv_iload_n hx hb dX8_size_0 rfl (lv_at hl 0 rfl) ?_
  refine lv_if_ge (tgt := 9) hx hb dX8_size_1 (by decide) (fun c1 => ?_) (fun c1 => ?_)
  · refine lv_iload_n hx hb dX8_size_9 rfl (lv_at hl 0 rfl) ?_
    exact e_i hf hr hlocks hw rfl (congrArg (fun z => (z, μ)) ((if_pos c1).trans rfl)) dX8_size_10
  · refine lv_iload_n hx hb dX8_size_4 rfl (lv_at hl 0 rfl) ?_
    refine lv_ineg hx hb dX8_size_5 ?_
    refine lv_goto (tgt := 10) hx hb dX8_size_6 (by decide) ?_
    exact e_i hf hr hlocks hw rfl (congrArg (fun z => (z, μ)) ((if_neg c1).trans rfl)) dX8_size_10
def sp_X8_diagnosed (g : Nat → Int32)  (n : Nat) : Int32 :=
  if ((g (85 + 29 * n + 13)) : Int32) = (-1) then
    1
  else
    if ((g (85 + 29 * n + 12)) : Int32) = 0 then
      if (((g (85 + 29 * n + 3)) / 10).toInt64 : Int64) ≤ sp_X8_without g  n then
        if (sp_X8_isBound g  n (g 3) : Int32) = 0 then
          if (sp_X8_isBound g  n (g 4) : Int32) = 0 then
            if ((g (85 + 29 * n + 1)) : Int32) = 3 then
              if (sp_X8_size   ((g (85 + 29 * n + 5)) - (g (85 + 29 * n + 6))) : Int32) ≤ g 6 then
                if (sp_X8_size   (g (85 + 29 * n + 10)) : Int32) ≤ g 7 then
                  if (sp_X8_degrees g  n : Int32) = (-2000000004) then
                    7
                  else
                    0
                else
                  6
              else
                5
            else
              if (sp_X8_size   (g (85 + 29 * n + 10)) : Int32) ≤ g 7 then
                if (sp_X8_degrees g  n : Int32) = (-2000000004) then
                  7
                else
                  0
              else
                6
          else
            4
        else
          4
      else
        3
    else
      2
set_option maxHeartbeats 4000000 in
set_option maxRecDepth 100000 in
theorem k_X8_diagnosed (l : Launch) (E : En) (μ : Mu)  (n : Nat) (hG : RG (μ.1 8)) (hS : RS (μ.1 8) n) : MtI l yX8_diagnosed cX8_diagnosed 2 .int ({ frames := 10, cells := 0, slots := 0, locals := 250 }) [.ref (E.1 (232)), .int (nI n)] E μ ((sp_X8_diagnosed (μ.1 8) n), μ) := by
  refine mt_of (by decide +kernel) (Nat.le_of_ble_eq_true rfl) ?_
  intro p e s m args below meth c ls hf hr hlocks hl hw
  have hx := hf.1
  have hb := hf.2.1
  have hl : lv_has ls 2 [(0, .ref (E.1 (232))), (1, .int (nI n))] := hl
  have hI := hG.1
  have hn := hS.1
  have hob : oN (μ.1 8) n < 3 := (hI.2.2.2 n hn).1.2
  refine lv_aload_n hx hb dX8_diagnosed_0 rfl (lv_at hl 0 rfl) ?_
  refine lv_iload_n hx hb dX8_diagnosed_1 rfl (lv_at hl 1 rfl) ?_
  refine lv_bipush (v := 13) hx hb dX8_diagnosed_2 (by decide) ?_
  refine c_iR hw (run_V (As := [.int (nI n), .int 13]) (rest := []) (np := 2) hf hw (kn_X8_of l E _  n 13  (show n < 6 from hn) (show 13 < 29 from (by decide))) ⟨gl_V q227 q228 q229 q5 q230, by decide +kernel⟩ ⟨rfl, rfl, Nat.le_of_ble_eq_true rfl, Nat.le_of_ble_eq_true rfl⟩ (by decide) (c_R E _) rfl rfl hl.1 rfl (Nat.le_of_ble_eq_true rfl) dX8_diagnosed_4 ⟨Nat.zero_le _, Nat.zero_le _⟩) (fun H locs hw => ?_)
  refine lv_iconst (v := (-1)) hx hb dX8_diagnosed_7 (by decide) ?_
  refine lv_icmp_ne (tgt := 13) hx hb dX8_diagnosed_8 (by decide) (fun c1 => ?_) (fun c1 => ?_)
  · refine lv_aload_n hx hb dX8_diagnosed_13 rfl (lv_at hl 0 rfl) ?_
    refine lv_iload_n hx hb dX8_diagnosed_14 rfl (lv_at hl 1 rfl) ?_
    refine lv_bipush (v := 12) hx hb dX8_diagnosed_15 (by decide) ?_
    refine c_iR hw (run_V (As := [.int (nI n), .int 12]) (rest := []) (np := 2) hf hw (kn_X8_of l E _  n 12  (show n < 6 from hn) (show 12 < 29 from (by decide))) ⟨gl_V q227 q228 q229 q5 q230, by decide +kernel⟩ ⟨rfl, rfl, Nat.le_of_ble_eq_true rfl, Nat.le_of_ble_eq_true rfl⟩ (by decide) (c_R E _) rfl rfl hl.1 rfl (Nat.le_of_ble_eq_true rfl) dX8_diagnosed_17 ⟨Nat.zero_le _, Nat.zero_le _⟩) (fun H locs hw => ?_)
    refine lv_if_eq (tgt := 25) hx hb dX8_diagnosed_20 (by decide) (fun c2 => ?_) (fun c2 => ?_)
    · refine lv_aload_n hx hb dX8_diagnosed_25 rfl (lv_at hl 0 rfl) ?_
      refine lv_iload_n hx hb dX8_diagnosed_26 rfl (lv_at hl 1 rfl) ?_
      refine c_lR hw (run_V (As := [.int (nI n)]) (rest := []) (np := 1) hf hw (k_X8_without l E _  n  hG hS) ⟨gl_V q635 q636 q637 q5 q638, by decide +kernel⟩ ⟨rfl, rfl, Nat.le_of_ble_eq_true rfl, Nat.le_of_ble_eq_true rfl⟩ (by decide) (c_R E _) rfl rfl hl.1 rfl (Nat.le_of_ble_eq_true rfl) dX8_diagnosed_27 ⟨Nat.zero_le _, Nat.zero_le _⟩) (fun H locs hw => ?_)
      refine lv_aload_n hx hb dX8_diagnosed_30 rfl (lv_at hl 0 rfl) ?_
      refine lv_iload_n hx hb dX8_diagnosed_31 rfl (lv_at hl 1 rfl) ?_
      refine lv_iconst (v := 3) hx hb dX8_diagnosed_32 (by decide) ?_
      refine c_iR hw (run_V (As := [.int (nI n), .int 3]) (rest := [.long (sp_X8_without (μ.1 8)  n)]) (np := 2) hf hw (kn_X8_of l E _  n 3  (show n < 6 from hn) (show 3 < 29 from (by decide))) ⟨gl_V q227 q228 q229 q5 q230, by decide +kernel⟩ ⟨rfl, rfl, Nat.le_of_ble_eq_true rfl, Nat.le_of_ble_eq_true rfl⟩ (by decide) (c_R E _) rfl rfl hl.1 rfl (Nat.le_of_ble_eq_true rfl) dX8_diagnosed_33 ⟨Nat.zero_le _, Nat.zero_le _⟩) (fun H locs hw => ?_)
      refine lv_bipush (v := 10) hx hb dX8_diagnosed_36 (by decide) ?_
      refine lv_idiv hx hb dX8_diagnosed_38 (by decide) ?_
      refine lv_i2l hx hb dX8_diagnosed_39 rfl ?_
      refine W.lcmp hx hb dX8_diagnosed_40 ?_
      refine lv_if_ge (tgt := 46) hx hb dX8_diagnosed_41 (by decide) (fun c3 => ?_) (fun c3 => ?_)
      · replace c3 := (lg_cmp_ge _ _).mp c3
        refine lv_aload_n hx hb dX8_diagnosed_46 rfl (lv_at hl 0 rfl) ?_
        refine lv_iload_n hx hb dX8_diagnosed_47 rfl (lv_at hl 1 rfl) ?_
        refine lv_aload_n hx hb dX8_diagnosed_48 rfl (lv_at hl 0 rfl) ?_
        refine g_f hw hf (by decide) (c_R E _) rfl inlX8 0 (by decide) rfl q90 rfl dX8_diagnosed_49 ?_
        refine lv_iconst (v := 3) hx hb dX8_diagnosed_52 (by decide) ?_
        refine g_a hw hf (by decide) (c_Rs E _) (vp_lit 3 259 (by decide) (by decide)) (tr_at (y := 3) (by decide) (by decide)) dX8_diagnosed_53 ?_
        refine c_iR hw (run_V (As := [.int (nI n), .int (μ.1 8 3)]) (rest := []) (np := 2) hf hw (k_X8_isBound l E _  n (μ.1 8 3)  hG hS hG.2.2.2.1) ⟨gl_V q672 q673 q674 q5 q675, by decide +kernel⟩ ⟨rfl, rfl, Nat.le_of_ble_eq_true rfl, Nat.le_of_ble_eq_true rfl⟩ (by decide) (c_R E _) rfl rfl hl.1 rfl (Nat.le_of_ble_eq_true rfl) dX8_diagnosed_54 ⟨Nat.zero_le _, Nat.zero_le _⟩) (fun H locs hw => ?_)
        refine lv_if_ne (tgt := 74) hx hb dX8_diagnosed_57 (by decide) (fun c4 => ?_) (fun c4 => ?_)
        · refine lv_iconst (v := 4) hx hb dX8_diagnosed_74 (by decide) ?_
          exact e_i hf hr hlocks hw rfl (congrArg (fun z => (z, μ)) ((if_neg c1).trans ((if_pos c2).trans ((if_pos c3).trans ((if_neg c4).trans rfl))))) dX8_diagnosed_75
        · refine lv_aload_n hx hb dX8_diagnosed_60 rfl (lv_at hl 0 rfl) ?_
          refine lv_iload_n hx hb dX8_diagnosed_61 rfl (lv_at hl 1 rfl) ?_
          refine lv_aload_n hx hb dX8_diagnosed_62 rfl (lv_at hl 0 rfl) ?_
          refine g_f hw hf (by decide) (c_R E _) rfl inlX8 0 (by decide) rfl q90 rfl dX8_diagnosed_63 ?_
          refine lv_iconst (v := 4) hx hb dX8_diagnosed_66 (by decide) ?_
          refine g_a hw hf (by decide) (c_Rs E _) (vp_lit 4 259 (by decide) (by decide)) (tr_at (y := 4) (by decide) (by decide)) dX8_diagnosed_67 ?_
          refine c_iR hw (run_V (As := [.int (nI n), .int (μ.1 8 4)]) (rest := []) (np := 2) hf hw (k_X8_isBound l E _  n (μ.1 8 4)  hG hS hG.2.2.2.2.1) ⟨gl_V q672 q673 q674 q5 q675, by decide +kernel⟩ ⟨rfl, rfl, Nat.le_of_ble_eq_true rfl, Nat.le_of_ble_eq_true rfl⟩ (by decide) (c_R E _) rfl rfl hl.1 rfl (Nat.le_of_ble_eq_true rfl) dX8_diagnosed_68 ⟨Nat.zero_le _, Nat.zero_le _⟩) (fun H locs hw => ?_)
          refine lv_if_eq (tgt := 76) hx hb dX8_diagnosed_71 (by decide) (fun c5 => ?_) (fun c5 => ?_)
          · refine lv_aload_n hx hb dX8_diagnosed_76 rfl (lv_at hl 0 rfl) ?_
            refine lv_iload_n hx hb dX8_diagnosed_77 rfl (lv_at hl 1 rfl) ?_
            refine lv_iconst (v := 1) hx hb dX8_diagnosed_78 (by decide) ?_
            refine c_iR hw (run_V (As := [.int (nI n), .int 1]) (rest := []) (np := 2) hf hw (kn_X8_of l E _  n 1  (show n < 6 from hn) (show 1 < 29 from (by decide))) ⟨gl_V q227 q228 q229 q5 q230, by decide +kernel⟩ ⟨rfl, rfl, Nat.le_of_ble_eq_true rfl, Nat.le_of_ble_eq_true rfl⟩ (by decide) (c_R E _) rfl rfl hl.1 rfl (Nat.le_of_ble_eq_true rfl) dX8_diagnosed_79 ⟨Nat.zero_le _, Nat.zero_le _⟩) (fun H locs hw => ?_)
            refine lv_iconst (v := 3) hx hb dX8_diagnosed_82 (by decide) ?_
            refine lv_icmp_ne (tgt := 115) hx hb dX8_diagnosed_83 (by decide) (fun c6 => ?_) (fun c6 => ?_)
            · refine lv_aload_n hx hb dX8_diagnosed_115 rfl (lv_at hl 0 rfl) ?_
              refine lv_iload_n hx hb dX8_diagnosed_116 rfl (lv_at hl 1 rfl) ?_
              refine lv_bipush (v := 10) hx hb dX8_diagnosed_117 (by decide) ?_
              refine c_iR hw (run_V (As := [.int (nI n), .int 10]) (rest := []) (np := 2) hf hw (kn_X8_of l E _  n 10  (show n < 6 from hn) (show 10 < 29 from (by decide))) ⟨gl_V q227 q228 q229 q5 q230, by decide +kernel⟩ ⟨rfl, rfl, Nat.le_of_ble_eq_true rfl, Nat.le_of_ble_eq_true rfl⟩ (by decide) (c_R E _) rfl rfl hl.1 rfl (Nat.le_of_ble_eq_true rfl) dX8_diagnosed_119 ⟨Nat.zero_le _, Nat.zero_le _⟩) (fun H locs hw => ?_)
              refine c_iR hw (run_S (As := [.int ((μ.1 8 (85 + 29 * n + 10)))]) (rest := []) (np := 1) hf hw (k_X8_size l E _  (μ.1 8 (85 + 29 * n + 10))  ) ⟨gl_S q676 q677 q5 q678, by decide +kernel⟩ ⟨rfl, rfl, Nat.le_of_ble_eq_true rfl, Nat.le_of_ble_eq_true rfl⟩ rfl hl.1 rfl (Nat.le_of_ble_eq_true rfl) dX8_diagnosed_122 ⟨Nat.zero_le _, Nat.zero_le _⟩) (fun H locs hw => ?_)
              refine lv_aload_n hx hb dX8_diagnosed_125 rfl (lv_at hl 0 rfl) ?_
              refine g_f hw hf (by decide) (c_R E _) rfl inlX8 0 (by decide) rfl q90 rfl dX8_diagnosed_126 ?_
              refine lv_bipush (v := 7) hx hb dX8_diagnosed_129 (by decide) ?_
              refine g_a hw hf (by decide) (c_Rs E _) (vp_lit 7 259 (by decide) (by decide)) (tr_at (y := 7) (by decide) (by decide)) dX8_diagnosed_131 ?_
              refine lv_icmp_le (tgt := 138) hx hb dX8_diagnosed_132 (by decide) (fun c7 => ?_) (fun c7 => ?_)
              · refine lv_aload_n hx hb dX8_diagnosed_138 rfl (lv_at hl 0 rfl) ?_
                refine lv_iload_n hx hb dX8_diagnosed_139 rfl (lv_at hl 1 rfl) ?_
                refine c_iR hw (run_V (As := [.int (nI n)]) (rest := []) (np := 1) hf hw (k_X8_degrees l E _  n  hG hS) ⟨gl_V q679 q680 q681 q5 q682, by decide +kernel⟩ ⟨rfl, rfl, Nat.le_of_ble_eq_true rfl, Nat.le_of_ble_eq_true rfl⟩ (by decide) (c_R E _) rfl rfl hl.1 rfl (Nat.le_of_ble_eq_true rfl) dX8_diagnosed_140 ⟨Nat.zero_le _, Nat.zero_le _⟩) (fun H locs hw => ?_)
                refine lv_ldc hx hb hf.2.2.2.1 (hf.2.2.2.2 _ q242) dX8_diagnosed_143 ?_
                refine lv_icmp_ne (tgt := 153) hx hb dX8_diagnosed_145 (by decide) (fun c8 => ?_) (fun c8 => ?_)
                · refine lv_iconst (v := 0) hx hb dX8_diagnosed_153 (by decide) ?_
                  exact e_i hf hr hlocks hw rfl (congrArg (fun z => (z, μ)) ((if_neg c1).trans ((if_pos c2).trans ((if_pos c3).trans ((if_pos c4).trans ((if_pos c5).trans ((if_neg c6).trans ((if_pos c7).trans ((if_neg c8).trans rfl))))))))) dX8_diagnosed_154
                · refine lv_bipush (v := 7) hx hb dX8_diagnosed_148 (by decide) ?_
                  refine lv_goto (tgt := 154) hx hb dX8_diagnosed_150 (by decide) ?_
                  exact e_i hf hr hlocks hw rfl (congrArg (fun z => (z, μ)) ((if_neg c1).trans ((if_pos c2).trans ((if_pos c3).trans ((if_pos c4).trans ((if_pos c5).trans ((if_neg c6).trans ((if_pos c7).trans ((if_pos c8).trans rfl))))))))) dX8_diagnosed_154
              · refine lv_bipush (v := 6) hx hb dX8_diagnosed_135 (by decide) ?_
                exact e_i hf hr hlocks hw rfl (congrArg (fun z => (z, μ)) ((if_neg c1).trans ((if_pos c2).trans ((if_pos c3).trans ((if_pos c4).trans ((if_pos c5).trans ((if_neg c6).trans ((if_neg c7).trans rfl)))))))) dX8_diagnosed_137
            · refine lv_aload_n hx hb dX8_diagnosed_86 rfl (lv_at hl 0 rfl) ?_
              refine lv_iload_n hx hb dX8_diagnosed_87 rfl (lv_at hl 1 rfl) ?_
              refine lv_iconst (v := 5) hx hb dX8_diagnosed_88 (by decide) ?_
              refine c_iR hw (run_V (As := [.int (nI n), .int 5]) (rest := []) (np := 2) hf hw (kn_X8_of l E _  n 5  (show n < 6 from hn) (show 5 < 29 from (by decide))) ⟨gl_V q227 q228 q229 q5 q230, by decide +kernel⟩ ⟨rfl, rfl, Nat.le_of_ble_eq_true rfl, Nat.le_of_ble_eq_true rfl⟩ (by decide) (c_R E _) rfl rfl hl.1 rfl (Nat.le_of_ble_eq_true rfl) dX8_diagnosed_89 ⟨Nat.zero_le _, Nat.zero_le _⟩) (fun H locs hw => ?_)
              refine lv_aload_n hx hb dX8_diagnosed_92 rfl (lv_at hl 0 rfl) ?_
              refine lv_iload_n hx hb dX8_diagnosed_93 rfl (lv_at hl 1 rfl) ?_
              refine lv_bipush (v := 6) hx hb dX8_diagnosed_94 (by decide) ?_
              refine c_iR hw (run_V (As := [.int (nI n), .int 6]) (rest := [.int ((μ.1 8 (85 + 29 * n + 5)))]) (np := 2) hf hw (kn_X8_of l E _  n 6  (show n < 6 from hn) (show 6 < 29 from (by decide))) ⟨gl_V q227 q228 q229 q5 q230, by decide +kernel⟩ ⟨rfl, rfl, Nat.le_of_ble_eq_true rfl, Nat.le_of_ble_eq_true rfl⟩ (by decide) (c_R E _) rfl rfl hl.1 rfl (Nat.le_of_ble_eq_true rfl) dX8_diagnosed_96 ⟨Nat.zero_le _, Nat.zero_le _⟩) (fun H locs hw => ?_)
              refine lv_isub hx hb dX8_diagnosed_99 ?_
              refine c_iR hw (run_S (As := [.int ((μ.1 8 (85 + 29 * n + 5)) - (μ.1 8 (85 + 29 * n + 6)))]) (rest := []) (np := 1) hf hw (k_X8_size l E _  ((μ.1 8 (85 + 29 * n + 5)) - (μ.1 8 (85 + 29 * n + 6)))  ) ⟨gl_S q676 q677 q5 q678, by decide +kernel⟩ ⟨rfl, rfl, Nat.le_of_ble_eq_true rfl, Nat.le_of_ble_eq_true rfl⟩ rfl hl.1 rfl (Nat.le_of_ble_eq_true rfl) dX8_diagnosed_100 ⟨Nat.zero_le _, Nat.zero_le _⟩) (fun H locs hw => ?_)
              refine lv_aload_n hx hb dX8_diagnosed_103 rfl (lv_at hl 0 rfl) ?_
              refine g_f hw hf (by decide) (c_R E _) rfl inlX8 0 (by decide) rfl q90 rfl dX8_diagnosed_104 ?_
              refine lv_bipush (v := 6) hx hb dX8_diagnosed_107 (by decide) ?_
              refine g_a hw hf (by decide) (c_Rs E _) (vp_lit 6 259 (by decide) (by decide)) (tr_at (y := 6) (by decide) (by decide)) dX8_diagnosed_109 ?_
              refine lv_icmp_le (tgt := 115) hx hb dX8_diagnosed_110 (by decide) (fun c9 => ?_) (fun c9 => ?_)
              · refine lv_aload_n hx hb dX8_diagnosed_115 rfl (lv_at hl 0 rfl) ?_
                refine lv_iload_n hx hb dX8_diagnosed_116 rfl (lv_at hl 1 rfl) ?_
                refine lv_bipush (v := 10) hx hb dX8_diagnosed_117 (by decide) ?_
                refine c_iR hw (run_V (As := [.int (nI n), .int 10]) (rest := []) (np := 2) hf hw (kn_X8_of l E _  n 10  (show n < 6 from hn) (show 10 < 29 from (by decide))) ⟨gl_V q227 q228 q229 q5 q230, by decide +kernel⟩ ⟨rfl, rfl, Nat.le_of_ble_eq_true rfl, Nat.le_of_ble_eq_true rfl⟩ (by decide) (c_R E _) rfl rfl hl.1 rfl (Nat.le_of_ble_eq_true rfl) dX8_diagnosed_119 ⟨Nat.zero_le _, Nat.zero_le _⟩) (fun H locs hw => ?_)
                refine c_iR hw (run_S (As := [.int ((μ.1 8 (85 + 29 * n + 10)))]) (rest := []) (np := 1) hf hw (k_X8_size l E _  (μ.1 8 (85 + 29 * n + 10))  ) ⟨gl_S q676 q677 q5 q678, by decide +kernel⟩ ⟨rfl, rfl, Nat.le_of_ble_eq_true rfl, Nat.le_of_ble_eq_true rfl⟩ rfl hl.1 rfl (Nat.le_of_ble_eq_true rfl) dX8_diagnosed_122 ⟨Nat.zero_le _, Nat.zero_le _⟩) (fun H locs hw => ?_)
                refine lv_aload_n hx hb dX8_diagnosed_125 rfl (lv_at hl 0 rfl) ?_
                refine g_f hw hf (by decide) (c_R E _) rfl inlX8 0 (by decide) rfl q90 rfl dX8_diagnosed_126 ?_
                refine lv_bipush (v := 7) hx hb dX8_diagnosed_129 (by decide) ?_
                refine g_a hw hf (by decide) (c_Rs E _) (vp_lit 7 259 (by decide) (by decide)) (tr_at (y := 7) (by decide) (by decide)) dX8_diagnosed_131 ?_
                refine lv_icmp_le (tgt := 138) hx hb dX8_diagnosed_132 (by decide) (fun c10 => ?_) (fun c10 => ?_)
                · refine lv_aload_n hx hb dX8_diagnosed_138 rfl (lv_at hl 0 rfl) ?_
                  refine lv_iload_n hx hb dX8_diagnosed_139 rfl (lv_at hl 1 rfl) ?_
                  refine c_iR hw (run_V (As := [.int (nI n)]) (rest := []) (np := 1) hf hw (k_X8_degrees l E _  n  hG hS) ⟨gl_V q679 q680 q681 q5 q682, by decide +kernel⟩ ⟨rfl, rfl, Nat.le_of_ble_eq_true rfl, Nat.le_of_ble_eq_true rfl⟩ (by decide) (c_R E _) rfl rfl hl.1 rfl (Nat.le_of_ble_eq_true rfl) dX8_diagnosed_140 ⟨Nat.zero_le _, Nat.zero_le _⟩) (fun H locs hw => ?_)
                  refine lv_ldc hx hb hf.2.2.2.1 (hf.2.2.2.2 _ q242) dX8_diagnosed_143 ?_
                  refine lv_icmp_ne (tgt := 153) hx hb dX8_diagnosed_145 (by decide) (fun c11 => ?_) (fun c11 => ?_)
                  · refine lv_iconst (v := 0) hx hb dX8_diagnosed_153 (by decide) ?_
                    exact e_i hf hr hlocks hw rfl (congrArg (fun z => (z, μ)) ((if_neg c1).trans ((if_pos c2).trans ((if_pos c3).trans ((if_pos c4).trans ((if_pos c5).trans ((if_pos c6).trans ((if_pos c9).trans ((if_pos c10).trans ((if_neg c11).trans rfl)))))))))) dX8_diagnosed_154
                  · refine lv_bipush (v := 7) hx hb dX8_diagnosed_148 (by decide) ?_
                    refine lv_goto (tgt := 154) hx hb dX8_diagnosed_150 (by decide) ?_
                    exact e_i hf hr hlocks hw rfl (congrArg (fun z => (z, μ)) ((if_neg c1).trans ((if_pos c2).trans ((if_pos c3).trans ((if_pos c4).trans ((if_pos c5).trans ((if_pos c6).trans ((if_pos c9).trans ((if_pos c10).trans ((if_pos c11).trans rfl)))))))))) dX8_diagnosed_154
                · refine lv_bipush (v := 6) hx hb dX8_diagnosed_135 (by decide) ?_
                  exact e_i hf hr hlocks hw rfl (congrArg (fun z => (z, μ)) ((if_neg c1).trans ((if_pos c2).trans ((if_pos c3).trans ((if_pos c4).trans ((if_pos c5).trans ((if_pos c6).trans ((if_pos c9).trans ((if_neg c10).trans rfl))))))))) dX8_diagnosed_137
              · refine lv_iconst (v := 5) hx hb dX8_diagnosed_113 (by decide) ?_
                exact e_i hf hr hlocks hw rfl (congrArg (fun z => (z, μ)) ((if_neg c1).trans ((if_pos c2).trans ((if_pos c3).trans ((if_pos c4).trans ((if_pos c5).trans ((if_pos c6).trans ((if_neg c9).trans rfl)))))))) dX8_diagnosed_114
          · refine lv_iconst (v := 4) hx hb dX8_diagnosed_74 (by decide) ?_
            exact e_i hf hr hlocks hw rfl (congrArg (fun z => (z, μ)) ((if_neg c1).trans ((if_pos c2).trans ((if_pos c3).trans ((if_pos c4).trans ((if_neg c5).trans rfl)))))) dX8_diagnosed_75
      · replace c3 := mt (lg_cmp_ge _ _).mpr c3
        refine lv_iconst (v := 3) hx hb dX8_diagnosed_44 (by decide) ?_
        exact e_i hf hr hlocks hw rfl (congrArg (fun z => (z, μ)) ((if_neg c1).trans ((if_pos c2).trans ((if_neg c3).trans rfl)))) dX8_diagnosed_45
    · refine lv_iconst (v := 2) hx hb dX8_diagnosed_23 (by decide) ?_
      exact e_i hf hr hlocks hw rfl (congrArg (fun z => (z, μ)) ((if_neg c1).trans ((if_neg c2).trans rfl))) dX8_diagnosed_24
  · refine lv_iconst (v := 1) hx hb dX8_diagnosed_11 (by decide) ?_
    exact e_i hf hr hlocks hw rfl (congrArg (fun z => (z, μ)) ((if_pos c1).trans rfl)) dX8_diagnosed_12
