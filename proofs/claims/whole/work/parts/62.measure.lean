/-! ===== measuring answers alike ===== -/
theorem tabO {B : Nat} {g s : Nat → Int32} (h : SimS B g s) {n : Nat} (hn : n < cS s) : sp_X4_tableAt g (g (sF n 0)) = some (oN s n) ∧ oN s n < 3 := by
  have c := simS_c h
  have hI := simS_RI h
  have e0 : g (sF n 0) = s (85 + 29 * n + 0) := (simS_N h hn).1 0 (by omega)
  have ot := (hI.2.2.2 n (by omega)).1
  have hS := (simS_R h).2 n hn
  refine ⟨?_, ot.2⟩
  rw [tabI h, e0]
  have ho : oN s n < (s 0).toNatClampNeg := by
    apply Classical.byContradiction
    intro q
    have z := h.2.2.2.2.2.1 (oN s n) ot.2 (by omega)
    have h2 := hS.2.1
    unfold rN at h2
    rw [z] at h2
    exact absurd h2 (by decide)
  have q : 0 ≤ s (85 + 29 * n + 0) ∧ s (85 + 29 * n + 0) ≤ s 0 - 1 := by
    have o3 := ot.2
    have k4 := hI.1.2
    refine (ni_pr hI.1 (by omega)).mp ⟨?_, ?_⟩
    · rw [ot.1]; exact nI_pos' (by omega)
    · rw [ot.1, hI.1.1]; exact nI_lt ho (by omega)
  rw [if_pos q]
  rfl
theorem tmpL {B t : Nat} {g s : Nat → Int32} (h : SimS B g s) (ht : t < 3) (h2 : 1 ≤ rN s t) : sp_X5_temperatureOf g t (g (tN t) - 1) = rL s t := by
  have hI := simS_RI h
  have h13 : rN s t < 13 := (hI.2.2.1 t ht).2
  have hNe : s (10 + 25 * t) = nI (rN s t) := (hI.2.2.1 t ht).1
  rw [show g (tN t) = nI (rN s t) from (sT_N h.1 ht).trans hNe, show nI (rN s t) - 1 = nI (rN s t - 1) from pk_sub (b := 1) (by omega), tmpOf (nI_pos (by omega)) (by rw [show (12 : Int32) = nI 12 from rfl, nI_leI (by omega) (by omega)]; omega), nI_clamp (by omega), sT_D h.1 ht (by omega)]
  rfl
theorem res_eq {B n : Nat} {g s : Nat → Int32} (h : SimS B g s) (hn : n < cS s) {w : Int32} (h0 : s (11 + 25 * (oN s n) + 0) ≤ w) (h1 : w ≤ rL s (oN s n)) : ((g (sF n 2)).toInt64 * (sp_X5_ratioAt g (oN s n) w).toInt64) / 1000000 = sp_X8_resistance s n w := by
  have o3 := (tabO h hn).2
  have hG := (simS_R h).1
  have hS := (simS_R h).2 n hn
  rw [show g (sF n 2) = s (85 + 29 * n + 2) from (simS_N h hn).1 2 (by omega), eq_ratioAt h.1 o3 hG.1 (hG.2.1 _ o3).1 (hG.2.1 _ o3).2 hS.2.1 h0 h1]
  rfl
theorem stra2 {g : Nat → Int32} {n : Nat} : sp_X3_strainOf g n (2 : Int32) = g (sF n 18) := stra_j (j := 2) (by omega)
theorem stra0 {g : Nat → Int32} {n : Nat} : sp_X3_strainOf g n (0 : Int32) = g (sF n 16) := stra_j (j := 0) (by omega)
theorem stra1 {g : Nat → Int32} {n : Nat} : sp_X3_strainOf g n (1 : Int32) = g (sF n 17) := stra_j (j := 1) (by omega)
theorem lead0 {g : Nat → Int32} {n : Nat} : sp_X3_leadOf g n (0 : Int32) = g (sF n 12) := lead_j (j := 0) (by omega)
theorem lead1 {g : Nat → Int32} {n : Nat} : sp_X3_leadOf g n (1 : Int32) = g (sF n 13) := lead_j (j := 1) (by omega)
theorem lead2 {g : Nat → Int32} {n : Nat} : sp_X3_leadOf g n (2 : Int32) = g (sF n 14) := lead_j (j := 2) (by omega)
theorem ht_eq {B n : Nat} {g s : Nat → Int32} (h : SimS B g s) (hn : n < cS s) {cu : Int32} (hc : 100 ≤ cu.toInt ∧ cu.toInt ≤ 5000) : htq g n cu.toInt64 = sp_X8_heated s n cu := by
  obtain ⟨to, o3⟩ := tabO h hn
  have hG := (simS_R h).1
  have hS := (simS_R h).2 n hn
  have hNN := simS_N h hn
  have a1 := hS.2.2.1
  unfold htq
  rw [to]
  show v_X1_heatedOhms g n (oN s n) cu.toInt64 = _
  unfold v_X1_heatedOhms sp_X8_heated
  rw [stra2, stra0, show g (sF n 18) = s (85 + 29 * n + 11) from hNN.2.2.2.2.2 2 (by omega), show g (sF n 16) = s (85 + 29 * n + 9) from hNN.2.2.2.2.2 0 (by omega), show g (sF n 4) = s (85 + 29 * n + 4) from hNN.1 4 (by omega), tmpL h o3 (by have := hS.2.1; omega)]
  by_cases c : s (85 + 29 * n + 11) = 1
  · rw [if_pos c, if_pos c]
  · rw [if_neg c, if_neg c, res_eq h hn (Int32.le_iff_toInt_le.mpr a1.1) (Int32.le_iff_toInt_le.mpr a1.2)]
    have r := res_bd hG hS a1.1 (at_le hS)
    have wb := wm_bd hc r hS.2.2.2.2.2
    have lo := heat_lo hG hS hc
    have bt := (((hG.2.1 _ o3).1).2 0 (by have := hS.2.1; omega)).1
    have tt := Int32.toInt_lt (s (85 + 29 * n + 4))
    have hx : ((s (85 + 29 * n + 4)).toInt64 + (((((cu.toInt64 * cu.toInt64) * sp_X8_resistance s n (s (85 + 29 * n + 4))) / 1000000) * (s (85 + 29 * n + 9)).toInt64) / 1000000)).toInt = (s (85 + 29 * n + 4)).toInt + (((((cu.toInt64 * cu.toInt64) * sp_X8_resistance s n (s (85 + 29 * n + 4))) / 1000000) * (s (85 + 29 * n + 9)).toInt64) / 1000000).toInt := by
      rw [Int64.toInt_add, Int32.toInt_toInt64, L_of _ (by omega)]
    generalize (s (85 + 29 * n + 4)).toInt64 + (((((cu.toInt64 * cu.toInt64) * sp_X8_resistance s n (s (85 + 29 * n + 4))) / 1000000) * (s (85 + 29 * n + 9)).toInt64) / 1000000) = X at *
    unfold mnL
    by_cases d : X ≤ (rL s (oN s n)).toInt64
    · have hl := th_le lo d
      have d' := Int64.le_iff_toInt_le.mp d
      rw [Int32.toInt_toInt64] at d'
      have tl := Int32.toInt_lt (rL s (oN s n))
      rw [if_neg (show ¬ (rL s (oN s n)).toInt64 < X by rw [Int64.lt_iff_toInt_lt, Int32.toInt_toInt64]; omega), if_pos d]
      refine res_eq h hn ?_ hl
      rw [Int32.le_iff_toInt_le, Int64.toInt_toInt32, I_of _ (by omega)]
      omega
    · rw [if_pos (show (rL s (oN s n)).toInt64 < X by rw [Int64.lt_iff_toInt_lt]; rw [Int64.le_iff_toInt_le] at d; omega), if_neg d, Int32.toInt32_toInt64]
      exact res_eq h hn (Int32.le_iff_toInt_le.mpr (by omega)) (Int32.le_iff_toInt_le.mpr (by omega))
abbrev uS (s : Nat → Int32) : Int64 := (1 : Int64) <<< ((s 5).toInt64 &&& 63)
theorem u_ok : ∀ k, k < 25 → 8 ≤ k → (0 < ((1 : Int64) <<< ((nI k).toInt64 &&& 63)).toInt ∧ ((1 : Int64) <<< ((nI k).toInt64 &&& 63)).toInt ≤ 16777216) ∧ (-4) * ((1 : Int64) <<< ((nI k).toInt64 &&& 63)) = -(4 * ((1 : Int64) <<< ((nI k).toInt64 &&& 63))) ∧ (4 : Int64) <<< ((nI k).toInt64 &&& 63) = 4 * ((1 : Int64) <<< ((nI k).toInt64 &&& 63)) ∧ (4 * ((1 : Int64) <<< ((nI k).toInt64 &&& 63))).toInt = 4 * ((1 : Int64) <<< ((nI k).toInt64 &&& 63)).toInt ∧ (-(4 * ((1 : Int64) <<< ((nI k).toInt64 &&& 63)))).toInt = -(4 * ((1 : Int64) <<< ((nI k).toInt64 &&& 63)).toInt) := by decide +kernel
theorem u_s {s : Nat → Int32} (hG : RG s) : (0 < (uS s).toInt ∧ (uS s).toInt ≤ 16777216) ∧ (-4) * (uS s) = -(4 * (uS s)) ∧ (4 : Int64) <<< ((s 5).toInt64 &&& 63) = 4 * (uS s) ∧ (4 * (uS s)).toInt = 4 * (uS s).toInt ∧ (-(4 * (uS s))).toInt = -(4 * (uS s).toInt) := by
  obtain ⟨k, hk, h8, e⟩ := bits_in hG.2.2.2.2.2
  unfold uS
  rw [e]
  exact u_ok k hk h8
theorem uni_eq {B : Nat} {g s : Nat → Int32} (h : SimS B g s) : uni g = uS s := by
  unfold uni
  rw [show sp_X4_setting g (3 : Int32) = g (3 + 3) from set_j (j := 3) (by omega), h.1.2.2.1 3 (by omega)]
theorem rfr_eq {B : Nat} {g s : Nat → Int32} (h : SimS B g s) : rfr g = (s 2).toInt64 := by
  unfold rfr
  rw [show sp_X4_setting g (0 : Int32) = g (3 + 0) from set_j (j := 0) (by omega), h.1.2.2.1 0 (by omega)]
theorem sty_eq {B n : Nat} {g s : Nat → Int32} (h : SimS B g s) (hn : n < cS s) : stry g n = (s (85 + 29 * n + 10)).toInt64 := by
  unfold stry
  rw [stra1, show g (sF n 17) = s (85 + 29 * n + 10) from (simS_N h hn).2.2.2.2.2 1 (by omega)]
theorem vol_eq {B n : Nat} {g s : Nat → Int32} (h : SimS B g s) (hn : n < cS s) {cu : Int32} (hc : 100 ≤ cu.toInt ∧ cu.toInt ≤ 5000) : vol g n cu.toInt64 = cu.toInt64 * sp_X8_loop s n cu := by
  have hNN := simS_N h hn
  unfold vol led sp_X8_loop
  rw [ht_eq h hn hc, lead0, lead1, show g (sF n 1) = s (85 + 29 * n + 1) from hNN.1 1 (by omega), show g (sF n 12) = s (85 + 29 * n + 5) from hNN.2.2.2.2.1 0 (by omega), show g (sF n 13) = s (85 + 29 * n + 6) from hNN.2.2.2.2.1 1 (by omega)]
  by_cases c : s (85 + 29 * n + 1) = 4
  · rw [if_pos c, if_pos c]; rfl
  · rw [if_neg c, if_neg c]
theorem vo2_eq {B n : Nat} {g s : Nat → Int32} (h : SimS B g s) (hn : n < cS s) {cu : Int32} : vo2 g n cu.toInt64 = cu.toInt64 * (s (85 + 29 * n + 6) + s (85 + 29 * n + 7)).toInt64 := by
  have hNN := simS_N h hn
  unfold vo2
  rw [lead1, lead2, show g (sF n 13) = s (85 + 29 * n + 6) from hNN.2.2.2.2.1 1 (by omega), show g (sF n 14) = s (85 + 29 * n + 7) from hNN.2.2.2.2.1 2 (by omega)]
def clp (u q : Int64) : Int64 := if q ≤ 4 * u then (if (-4) * u ≤ q then q else (-4) * u) else 4 * u
theorem cnt_eq {s : Nat → Int32} (hG : RG s) {cu : Int32} (hc : 100 ≤ cu.toInt ∧ cu.toInt ≤ 5000) (v : Int64) : v_X1_countsOf cu.toInt64 (s 2).toInt64 (uS s) v = clp (uS s) ((v * (uS s)) / (cu.toInt64 * (s 2).toInt64)) := by
  obtain ⟨⟨u0, u1⟩, u2, u3, u4, u5⟩ := u_s hG
  have r := hG.2.2.1
  have hp : (0 : Int64) < cu.toInt64 * (s 2).toInt64 := by
    have m0 : 0 < cu.toInt * (s 2).toInt := Int.mul_pos (by omega) (by omega)
    have m1 : cu.toInt * (s 2).toInt ≤ 5000 * 1000000 := Int.mul_le_mul (by omega) (by omega) (by omega) (by omega)
    rw [Int64.lt_iff_toInt_lt, Int64.toInt_mul, Int32.toInt_toInt64, Int32.toInt_toInt64, L_of _ (by omega), show (0 : Int64).toInt = 0 by decide]
    exact m0
  unfold v_X1_countsOf clp
  rw [if_pos hp]
  generalize (v * (uS s)) / (cu.toInt64 * (s 2).toInt64) = q
  rw [u2]
  unfold mxL mnL
  by_cases a : q ≤ 4 * uS s
  · rw [if_pos a]
    have e : (if q < 4 * uS s then q else 4 * uS s) = q := by
      by_cases b : q < 4 * uS s
      · rw [if_pos b]
      · rw [if_neg b]
        apply Int64.toInt_inj.mp
        rw [Int64.le_iff_toInt_le] at a; rw [Int64.lt_iff_toInt_lt] at b; omega
    rw [e]
    by_cases b : -(4 * uS s) ≤ q
    · rw [if_pos b, if_neg (by rw [Int64.lt_iff_toInt_lt]; rw [Int64.le_iff_toInt_le] at b; omega)]
    · rw [if_neg b, if_pos (by rw [Int64.lt_iff_toInt_lt]; rw [Int64.le_iff_toInt_le] at b; omega)]
  · rw [if_neg a, if_neg (show ¬ q < 4 * uS s by rw [Int64.lt_iff_toInt_lt]; rw [Int64.le_iff_toInt_le] at a; omega), if_neg (by rw [Int64.lt_iff_toInt_lt, u4, u5]; omega)]
theorem clp_bd {s : Nat → Int32} (hG : RG s) (q : Int64) : -(4 * (uS s).toInt) ≤ (clp (uS s) q).toInt ∧ (clp (uS s) q).toInt ≤ 4 * (uS s).toInt := by
  obtain ⟨⟨u0, u1⟩, u2, u3, u4, u5⟩ := u_s hG
  unfold clp
  rw [u2]
  by_cases a : q ≤ 4 * uS s
  · rw [if_pos a]
    by_cases b : -(4 * uS s) ≤ q
    · rw [if_pos b]
      rw [Int64.le_iff_toInt_le] at a b
      omega
    · rw [if_neg b, u5]; omega
  · rw [if_neg a, u4]; omega
theorem ow_clp (s : Nat → Int32) (n : Nat) (cu a b : Int32) : ∃ q, sp_X8_countsOneWay s n cu a b = clp (uS s) q := by
  unfold sp_X8_countsOneWay
  by_cases c : a = 0
  · rw [if_pos c]
    by_cases d : b = 0
    · rw [if_pos d]; exact ⟨_, rfl⟩
    · rw [if_neg d]; exact ⟨_, rfl⟩
  · rw [if_neg c]
    by_cases d : b = 0
    · rw [if_pos d]; exact ⟨_, rfl⟩
    · rw [if_neg d]; exact ⟨_, rfl⟩
theorem one_eq {B n : Nat} {g s : Nat → Int32} (h : SimS B g s) (hn : n < cS s) {cu : Int32} (hc : 100 ≤ cu.toInt ∧ cu.toInt ≤ 5000) : one g n cu.toInt64 = sp_X8_countsOneWay s n cu 0 0 := by
  unfold one
  rw [rfr_eq h, uni_eq h, sty_eq h hn, vol_eq h hn hc, cnt_eq (simS_R h).1 hc]
  unfold sp_X8_countsOneWay
  rw [if_pos rfl, if_pos rfl]
  rfl
theorem oth_eq {B n : Nat} {g s : Nat → Int32} (h : SimS B g s) (hn : n < cS s) {cu : Int32} (hc : 100 ≤ cu.toInt ∧ cu.toInt ≤ 5000) : oth g n cu.toInt64 = sp_X8_countsOneWay s n cu 0 1 := by
  unfold oth
  rw [rfr_eq h, uni_eq h, sty_eq h hn, vol_eq h hn hc, cnt_eq (simS_R h).1 hc]
  unfold sp_X8_countsOneWay
  rw [if_pos rfl, if_neg (by decide)]
  rfl
theorem on2_eq {B n : Nat} {g s : Nat → Int32} (h : SimS B g s) (hn : n < cS s) {cu : Int32} (hc : 100 ≤ cu.toInt ∧ cu.toInt ≤ 5000) : on2 g n cu.toInt64 = sp_X8_countsOneWay s n cu 1 0 := by
  unfold on2
  rw [rfr_eq h, uni_eq h, sty_eq h hn, vo2_eq h hn, cnt_eq (simS_R h).1 hc]
  unfold sp_X8_countsOneWay
  rw [if_neg (by decide), if_pos rfl]
  rfl
theorem ot2_eq {B n : Nat} {g s : Nat → Int32} (h : SimS B g s) (hn : n < cS s) {cu : Int32} (hc : 100 ≤ cu.toInt ∧ cu.toInt ≤ 5000) : ot2 g n cu.toInt64 = sp_X8_countsOneWay s n cu 1 1 := by
  unfold ot2
  rw [rfr_eq h, uni_eq h, sty_eq h hn, vo2_eq h hn, cnt_eq (simS_R h).1 hc]
  unfold sp_X8_countsOneWay
  rw [if_neg (by decide), if_neg (by decide)]
  rfl
theorem by_eq {B : Nat} {g s : Nat → Int32} (h : SimS B g s) (v : Int64) : v_X1_ohmsBy (uni g) (rfr g) v = sp_X8_byCounts s v := by
  have u := (u_s (simS_R h).1).1.1
  unfold v_X1_ohmsBy sp_X8_byCounts
  rw [uni_eq h, rfr_eq h, if_pos (by rw [Int64.lt_iff_toInt_lt, show (0 : Int64).toInt = 0 by decide]; exact u)]
theorem lpo_eq {B n : Nat} {g s : Nat → Int32} (h : SimS B g s) (hn : n < cS s) {cu : Int32} (hc : 100 ≤ cu.toInt ∧ cu.toInt ≤ 5000) : lpo g n cu.toInt64 = sp_X8_byCounts s (sp_X8_countsOf s n cu 0 2) := by
  unfold lpo
  rw [by_eq h, one_eq h hn hc, oth_eq h hn hc]
  unfold sp_X8_countsOf
  rw [if_pos rfl]
theorem cps_eq {B n : Nat} {g s : Nat → Int32} (h : SimS B g s) (hn : n < cS s) {cu : Int32} (hc : 100 ≤ cu.toInt ∧ cu.toInt ≤ 5000) : cps g n cu.toInt64 = sp_X8_compensated s n cu := by
  unfold cps sp_X8_compensated
  rw [lpo_eq h hn hc, by_eq h, on2_eq h hn hc, ot2_eq h hn hc, show g (sF n 1) = s (85 + 29 * n + 1) from (simS_N h hn).1 1 (by omega)]
  rfl
theorem td_bd {a b M : Int} (hb : 0 < b) (h1 : -(M * b) ≤ a) (h2 : a ≤ M * b) : -M ≤ a.tdiv b ∧ a.tdiv b ≤ M := by
  rcases Int.le_total 0 a with q | q
  · rw [Int.tdiv_eq_ediv_of_nonneg q]
    have e1 := Int.ediv_nonneg q (Int.le_of_lt hb)
    have e2 := Int.ediv_le_of_le_mul hb h2
    omega
  · obtain ⟨c, rfl⟩ : ∃ c, a = -c := ⟨-a, by omega⟩
    rw [Int.neg_tdiv, Int.tdiv_eq_ediv_of_nonneg (by omega)]
    have e1 := Int.ediv_nonneg (show 0 ≤ c by omega) (Int.le_of_lt hb)
    have e2 := Int.ediv_le_of_le_mul hb (show c ≤ M * b by omega)
    omega
theorem co_bd {s : Nat → Int32} (hG : RG s) (n : Nat) (cu a : Int32) : -(4 * (uS s).toInt) ≤ (sp_X8_countsOf s n cu a 2).toInt ∧ (sp_X8_countsOf s n cu a 2).toInt ≤ 4 * (uS s).toInt := by
  have u := (u_s hG).1
  unfold sp_X8_countsOf
  rw [if_pos rfl]
  obtain ⟨q1, e1⟩ := ow_clp s n cu a 0
  obtain ⟨q2, e2⟩ := ow_clp s n cu a 1
  have b1 := clp_bd hG q1
  have b2 := clp_bd hG q2
  rw [e1, e2, Int64.toInt_div, Int64.toInt_sub, L_of ((clp (uS s) q1).toInt - (clp (uS s) q2).toInt) (by omega), show (2 : Int64).toInt = 2 by decide]
  have t := td_bd (a := (clp (uS s) q1).toInt - (clp (uS s) q2).toInt) (b := 2) (M := 4 * (uS s).toInt) (by omega) (by omega) (by omega)
  rw [L_of _ (by omega)]
  exact t
theorem by_bd {s : Nat → Int32} (hG : RG s) {v : Int64} (h1 : -(4 * (uS s).toInt) ≤ v.toInt) (h2 : v.toInt ≤ 4 * (uS s).toInt) : -4000000 ≤ (sp_X8_byCounts s v).toInt ∧ (sp_X8_byCounts s v).toInt ≤ 4000000 := by
  have u := (u_s hG).1
  have r := hG.2.2.1
  unfold sp_X8_byCounts
  have k1 : v.toInt * (s 2).toInt ≤ (4 * (uS s).toInt) * (s 2).toInt := Int.mul_le_mul_of_nonneg_right h2 (by omega)
  have k2 : -(4 * (uS s).toInt) * (s 2).toInt ≤ v.toInt * (s 2).toInt := Int.mul_le_mul_of_nonneg_right h1 (by omega)
  have k3 : (4 * (uS s).toInt) * (s 2).toInt ≤ 67108864 * 1000000 := Int.mul_le_mul (by omega) (by omega) (by omega) (by omega)
  have k4 : -(4 * (uS s).toInt) * (s 2).toInt = -((4 * (uS s).toInt) * (s 2).toInt) := Int.neg_mul _ _
  have e : (v * (s 2).toInt64).toInt = v.toInt * (s 2).toInt := by rw [Int64.toInt_mul, Int32.toInt_toInt64, L_of _ (by omega)]
  have k5 : (4 * (uS s).toInt) * (s 2).toInt = 4 * (s 2).toInt * (uS s).toInt := by
    rw [Int.mul_assoc, Int.mul_comm (uS s).toInt, ← Int.mul_assoc]
  have t := td_bd (a := v.toInt * (s 2).toInt) (b := (uS s).toInt) (M := 4 * (s 2).toInt) u.1 (by omega) (by omega)
  rw [Int64.toInt_div, e]
  show -4000000 ≤ (Int.bmod ((v.toInt * (s 2).toInt).tdiv (uS s).toInt) (2 ^ 64)) ∧ (Int.bmod ((v.toInt * (s 2).toInt).tdiv (uS s).toInt) (2 ^ 64)) ≤ 4000000
  rw [L_of _ (by omega)]
  omega
theorem cp_bd {s : Nat → Int32} (hG : RG s) (n : Nat) (cu : Int32) : -8000000 ≤ (sp_X8_compensated s n cu).toInt ∧ (sp_X8_compensated s n cu).toInt ≤ 8000000 := by
  have c1 := co_bd hG n cu 0
  have c2 := co_bd hG n cu 1
  have b1 := by_bd hG c1.1 c1.2
  have b2 := by_bd hG c2.1 c2.2
  unfold sp_X8_compensated
  by_cases c : s (85 + 29 * n + 1) = 3
  · rw [if_pos c, Int64.toInt_sub, L_of _ (by omega)]; omega
  · rw [if_neg c]; omega
theorem wop_eq {B n : Nat} {g s : Nat → Int32} (h : SimS B g s) (hn : n < cS s) : cur1 g = s 3 ∧ cur2 g = s 4 ∧ wop g n = sp_X8_without s n := by
  have hG := (simS_R h).1
  have e1 : cur1 g = s 3 := by
    unfold cur1
    rw [show sp_X4_setting g (1 : Int32) = g (3 + 1) from set_j (j := 1) (by omega), h.1.2.2.1 1 (by omega)]
  have e2 : cur2 g = s 4 := by
    unfold cur2
    rw [show sp_X4_setting g (2 : Int32) = g (3 + 2) from set_j (j := 2) (by omega), h.1.2.2.1 2 (by omega)]
  refine ⟨e1, e2, ?_⟩
  have r3 := hG.2.2.2.1
  have r4 := hG.2.2.2.2.1
  unfold wop v_X2_extrapolated sp_X8_without
  rw [e1, e2, cps_eq h hn r3, cps_eq h hn r4]
  by_cases c : (s 3).toInt64 = (s 4).toInt64
  · rw [if_pos c, c, Int64.sub_self, if_pos rfl]
    have b := cp_bd hG n (s 3)
    rw [if_pos (by rw [Int64.le_iff_toInt_le, show (-2000000000 : Int64).toInt = -2000000000 by decide]; omega), if_pos (by rw [Int64.le_iff_toInt_le, show (2000000000 : Int64).toInt = 2000000000 by decide]; omega)]
  · rw [if_neg c, if_neg (nzS r3 r4 c)]
    generalize (sp_X8_compensated s n (s 3)) - (((((sp_X8_compensated s n (s 4)) - (sp_X8_compensated s n (s 3))) * ((s 3).toInt64)) * ((s 3).toInt64)) / ((((s 4).toInt64) * ((s 4).toInt64)) - (((s 3).toInt64) * ((s 3).toInt64)))) = q
    unfold mxL mnL
    have f1 : (-2000000000 : Int64).toInt = -2000000000 := by decide
    have f2 : (2000000000 : Int64).toInt = 2000000000 := by decide
    by_cases a : (-2000000000 : Int64) ≤ q
    · have a' := Int64.le_iff_toInt_le.mp a
      rw [if_pos a]
      by_cases b : q ≤ 2000000000
      · have b' := Int64.le_iff_toInt_le.mp b
        rw [if_pos b]
        have e : (if q < 2000000000 then q else 2000000000) = q := by
          by_cases z : q < 2000000000
          · rw [if_pos z]
          · rw [if_neg z]
            apply Int64.toInt_inj.mp
            rw [Int64.lt_iff_toInt_lt] at z; omega
        rw [e, if_neg (by rw [Int64.lt_iff_toInt_lt]; omega)]
      · have b' : 2000000000 < q.toInt := by rw [Int64.le_iff_toInt_le] at b; omega
        rw [if_neg b, if_neg (show ¬ q < 2000000000 by rw [Int64.lt_iff_toInt_lt]; omega), if_neg (by decide)]
    · have a' : q.toInt < -2000000000 := by rw [Int64.le_iff_toInt_le] at a; omega
      rw [if_neg a, if_pos (show q < 2000000000 by rw [Int64.lt_iff_toInt_lt]; omega), if_pos (by rw [Int64.lt_iff_toInt_lt]; omega)]
theorem rdg_eq {B n : Nat} {g s : Nat → Int32} (h : SimS B g s) (hn : n < cS s) : rdg g n = sp_X8_degrees s n := by
  obtain ⟨to, o3⟩ := tabO h hn
  have hG := (simS_R h).1
  have hS := (simS_R h).2 n hn
  unfold rdg
  rw [to, (wop_eq h hn).2.2, show g (sF n 3) = s (85 + 29 * n + 3) from (simS_N h hn).1 3 (by omega)]
  show v_X2_readingOf g (oN s n) (sp_X8_without s n) (s (85 + 29 * n + 3)).toInt64 = _
  unfold v_X2_readingOf sp_X8_degrees
  have a := hS.2.2.2.2.1
  rw [if_pos (by rw [Int64.lt_iff_toInt_lt, Int32.toInt_toInt64, show (0 : Int64).toInt = 0 by decide]; omega)]
  exact eq_inverseOf h.1 o3 hG.1 (hG.2.1 _ o3).1 (hG.2.1 _ o3).2 _
theorem bnd_eq {B n : Nat} {g s : Nat → Int32} (h : SimS B g s) (hn : n < cS s) {cu : Int32} (hc : 100 ≤ cu.toInt ∧ cu.toInt ≤ 5000) : (one g n cu.toInt64 = 4 * uni g ∨ one g n cu.toInt64 = -(4 * uni g) ∨ oth g n cu.toInt64 = 4 * uni g ∨ oth g n cu.toInt64 = -(4 * uni g)) ↔ ¬ sp_X8_isBound s n cu = 0 := by
  have u3 := (u_s (simS_R h).1).2.2.1
  have k : ∀ b : Int32, ¬ b = 2 → sp_X8_countsOf s n cu 0 b = sp_X8_countsOneWay s n cu 0 b := fun b hb => if_neg hb
  rw [one_eq h hn hc, oth_eq h hn hc, uni_eq h]
  unfold sp_X8_isBound
  rw [u3, k 0 (by decide), k 1 (by decide)]
  generalize sp_X8_countsOneWay s n cu 0 0 = x
  generalize sp_X8_countsOneWay s n cu 0 1 = y
  by_cases a : x = 4 * uS s
  · rw [if_pos a]; exact ⟨fun _ => by decide, fun _ => Or.inl a⟩
  · rw [if_neg a]
    by_cases b : x = -(4 * uS s)
    · rw [if_pos b]; exact ⟨fun _ => by decide, fun _ => Or.inr (Or.inl b)⟩
    · rw [if_neg b]
      by_cases c : y = 4 * uS s
      · rw [if_pos c]; exact ⟨fun _ => by decide, fun _ => Or.inr (Or.inr (Or.inl c))⟩
      · rw [if_neg c]
        by_cases d : y = -(4 * uS s)
        · rw [if_pos d]; exact ⟨fun _ => by decide, fun _ => Or.inr (Or.inr (Or.inr d))⟩
        · rw [if_neg d]
          exact ⟨fun q => (q.elim a (fun q => q.elim b (fun q => q.elim c d))).elim, fun q => absurd rfl q⟩
theorem abI_eq (x : Int32) : abI x = sp_X8_size x := by
  unfold abI sp_X8_size
  rw [Int32.zero_sub]
theorem dgn_eq {B n : Nat} {g s : Nat → Int32} (h : SimS B g s) (hn : n < cS s) : dgn g n = sp_X8_diagnosed s n := by
  have hG := (simS_R h).1
  have r3 := hG.2.2.2.1
  have r4 := hG.2.2.2.2.1
  have hNN := simS_N h hn
  obtain ⟨e1, e2, ew⟩ := wop_eq h hn
  have b1 := bnd_eq h hn r3
  have b2 := bnd_eq h hn r4
  unfold dgn v_X2_diagnosisOf sp_X8_diagnosed
  rw [e1, e2, ew, rdg_eq h hn, lead0, lead1, stra1, abI_eq, abI_eq, show g (sF n 5) = s (85 + 29 * n + 12) from hNN.2.1, show g (sF n 3) = s (85 + 29 * n + 3) from hNN.1 3 (by omega), show g (sF n 1) = s (85 + 29 * n + 1) from hNN.1 1 (by omega), show g (sF n 12) = s (85 + 29 * n + 5) from hNN.2.2.2.2.1 0 (by omega), show g (sF n 13) = s (85 + 29 * n + 6) from hNN.2.2.2.2.1 1 (by omega), show g (sF n 17) = s (85 + 29 * n + 10) from hNN.2.2.2.2.2 1 (by omega), show sp_X4_setting g (4 : Int32) = g (3 + 4) from set_j (j := 4) (by omega), show sp_X4_setting g (5 : Int32) = g (3 + 5) from set_j (j := 5) (by omega), h.1.2.2.1 4 (by omega), h.1.2.2.1 5 (by omega)]
  have hp := pl_no hNN.2.2.1
  by_cases c : g (sF n 6) = -1
  · rw [if_neg (fun q => q c), if_pos (hp.mp c)]
  · rw [if_pos c, if_neg (fun q => c (hp.mpr q))]
    by_cases c1 : s (85 + 29 * n + 12) = 0
    · rw [if_pos c1, if_pos c1]
      by_cases c2 : (s (85 + 29 * n + 3) / 10).toInt64 ≤ sp_X8_without s n
      · rw [if_pos c2, if_pos c2]
        by_cases c3 : sp_X8_isBound s n (s 3) = 0
        · rw [if_neg (fun q => b1.mp q c3), if_pos c3]
          by_cases c4 : sp_X8_isBound s n (s 4) = 0
          · rw [if_neg (fun q => b2.mp q c4), if_pos c4]
          · rw [if_pos (b2.mpr c4), if_neg c4]
        · rw [if_pos (b1.mpr c3), if_neg c3]
      · rw [if_neg c2, if_neg c2]
    · rw [if_neg c1, if_neg c1]
