/-! ===== more changes of one field ===== -/
theorem l2i {z : Int64} (h : (1000 : Int64) ≤ z ∧ z ≤ 2000000) : 1000 ≤ z.toInt32.toInt ∧ z.toInt32.toInt ≤ 2000000 := by
  obtain ⟨h1, h2⟩ := h
  rw [Int64.le_iff_toInt_le] at h1 h2
  rw [show (1000 : Int64).toInt = 1000 by decide] at h1
  rw [show (2000000 : Int64).toInt = 2000000 by decide] at h2
  rw [Int64.toInt_toInt32, I_of _ (by omega)]
  exact ⟨h1, h2⟩
theorem st_drift {B : Nat} {μ : Mu} (h : Inv B μ) (a b : Int32) : Stq B (sp_X7_drift μ a b) (fun m => sp_X8_drift m a b) := by
  have hS := h.1
  unfold sp_X7_drift
  rw [senI hS]
  by_cases c : 0 ≤ a ∧ a ≤ μ.1 8 1 - 1
  · rw [if_pos c]
    obtain ⟨-, hn⟩ := sen_lt hS c
    have hc := simS_c hS
    generalize hna : a.toNatClampNeg = n at *
    show Stq B (if ((-100000) : Int64) ≤ b.toInt64 ∧ b.toInt64 ≤ (100000 : Int64) then _ else _) _
    rw [show μ.1 0 (sF n 2) = μ.1 8 (85 + 29 * n + 2) from (simS_N hS hn).1 2 (by omega)]
    by_cases c1 : (-100000 : Int32) ≤ b ∧ b ≤ 100000
    · rw [if_pos ((i2g (by decide) (by decide)).mpr c1)]
      generalize hz : (((μ.1 8 (85 + 29 * n + 2)).toInt64) * (1000000 + (b.toInt64))) / 1000000 = z
      by_cases c2 : (1000 : Int64) ≤ z ∧ z ≤ 2000000
      · rw [if_pos c2]
        have hl := l2i c2
        have hv : ¬ z.toInt32 ≤ -2000000001 := nle_bd (by omega)
        refine stp_w (k' := 85 + 29 * n + 2) (v' := z.toInt32) (w := z.toInt32) h (Nat.le_refl _) ?_ rfl hv ?_
        · have e8 : (pM (sp_X0_record μ) 0 (sF n 2) z.toInt32).1 8 = μ.1 8 := by rw [row_n _ (by omega), rec_7 h (by omega)]
          show sp_X8_drift _ a b = _
          unfold sp_X8_drift
          rw [e8, hna, if_pos c, if_pos c1, hz, if_pos c2]
        · exact simS_g hS hn (by omega) (by omega) (by omega) rfl hv (by omega) (by omega) (rgs_3 (by omega) ⟨fun _ => hl, by omega, by omega⟩ (simS_R hS))
      · rw [if_neg c2]
        refine stp_no h (Nat.le_refl _) ?_
        show sp_X8_drift _ a b = _
        unfold sp_X8_drift
        rw [hna, if_pos c, if_pos c1, hz, if_neg c2]
    · rw [if_neg (fun q => c1 ((i2g (by decide) (by decide)).mp q))]
      refine stp_no h (Nat.le_refl _) ?_
      show sp_X8_drift _ a b = _
      unfold sp_X8_drift
      rw [if_pos c, if_neg c1]
  · rw [if_neg c]
    refine stp_no h (Nat.le_refl _) ?_
    show sp_X8_drift _ a b = _
    unfold sp_X8_drift
    rw [if_neg c]
theorem b_in {a L : Int32} (l : Nat) (hL : L = nI l) (hl : l < 1000) (c : (0 : Int32) ≤ a ∧ a ≤ L) : ∃ i, i < l + 1 ∧ a = nI i := by
  obtain ⟨a1, -, a3⟩ := na_rng 0 l rfl hL (by omega) (by omega) c
  exact ⟨_, a3, a1⟩
theorem row7_i (i : Nat) (hi : i < 7) : zl0.getD i 0 = sp_X8_least (nI i) ∧ zl1.getD i 0 = sp_X8_most (nI i) := by
  rcases (show i = 0 ∨ i = 1 ∨ i = 2 ∨ i = 3 ∨ i = 4 ∨ i = 5 ∨ i = 6 by omega) with rfl | rfl | rfl | rfl | rfl | rfl | rfl <;> exact ⟨by decide, by decide⟩
theorem row7 (a b : Int32) : sp_X7_isInRow b a = 0 ↔ ¬ ((0 ≤ a ∧ a ≤ 6) ∧ sp_X8_least (nI a.toNatClampNeg) ≤ b ∧ b ≤ sp_X8_most (nI a.toNatClampNeg)) := by
  by_cases c : (0 : Int32) ≤ a ∧ a ≤ 6
  · obtain ⟨i, hi, rfl⟩ := b_in 6 rfl (by omega) c
    obtain ⟨e1, e2⟩ := row7_i i hi
    unfold sp_X7_isInRow
    rw [nI_clamp (by omega), if_neg (nI_pos (by omega)), if_neg (by rw [show (7 : Int32) = nI 7 from rfl, nI_leI (by omega) (by omega)]; omega), if_neg (by rw [show (7 : Int32) = nI 7 from rfl, nI_leI (by omega) (by omega)]; omega), e1, e2]
    by_cases c1 : b < sp_X8_least (nI i)
    · rw [if_pos c1]
      refine ⟨fun _ q => ?_, fun _ => rfl⟩
      have := q.2.1
      rw [Int32.le_iff_toInt_le] at this; rw [Int32.lt_iff_toInt_lt] at c1; omega
    · rw [if_neg c1]
      by_cases c2 : sp_X8_most (nI i) < b
      · rw [if_pos c2]
        refine ⟨fun _ q => ?_, fun _ => rfl⟩
        have := q.2.2
        rw [Int32.le_iff_toInt_le] at this; rw [Int32.lt_iff_toInt_lt] at c2; omega
      · rw [if_neg c2]
        refine ⟨fun q => absurd q (by decide), fun q => (q ⟨c, ?_, ?_⟩).elim⟩
        · rw [Int32.le_iff_toInt_le]; rw [Int32.lt_iff_toInt_lt] at c1; omega
        · rw [Int32.le_iff_toInt_le]; rw [Int32.lt_iff_toInt_lt] at c2; omega
  · refine ⟨fun _ q => c q.1, fun _ => ?_⟩
    unfold sp_X7_isInRow
    by_cases c1 : a < 0
    · rw [if_pos c1]
    · rw [if_neg c1, if_pos]
      rw [Int32.le_iff_toInt_le, show (7 : Int32).toInt = 7 by decide]
      rw [Int32.lt_iff_toInt_lt, Int32.toInt_zero] at c1
      apply Classical.byContradiction
      intro q
      apply c
      rw [Int32.le_iff_toInt_le, Int32.le_iff_toInt_le, show (6 : Int32).toInt = 6 by decide, Int32.toInt_zero]
      omega
theorem set_j {g : Nat → Int32} {j : Nat} (hj : j < 7) : sp_X4_setting g (nI j) = g (3 + j) := by
  unfold sp_X4_setting
  rw [if_neg (nI_pos (by omega)), if_neg (by rw [show (7 : Int32) = nI 7 from rfl, nI_leI (by omega) (by omega)]; omega), nI_clamp (by omega)]
theorem chs_j {m : Mu} {j : Nat} {v : Int32} (hj : j < 7) : sp_X4_changeSetting m 0 (nI j) v = pM m 0 (3 + j) v := by
  unfold sp_X4_changeSetting
  rw [if_neg (nI_pos (by omega)), if_neg (by rw [show (7 : Int32) = nI 7 from rfl, nI_leI (by omega) (by omega)]; omega), nI_clamp (by omega)]
theorem ni_rg {v : Int32} {l h : Nat} (c : nI l ≤ v ∧ v ≤ nI h) (hh : h < 100) (hl : l ≤ h) : ni (h + 1) v := by
  obtain ⟨a1, -, a3⟩ := na_rng l h rfl rfl (by omega) hl c
  exact ⟨a1, a3⟩
theorem rg_int {v L H : Int32} (c : L ≤ v ∧ v ≤ H) : L.toInt ≤ v.toInt ∧ v.toInt ≤ H.toInt := ⟨Int32.le_iff_toInt_le.mp c.1, Int32.le_iff_toInt_le.mp c.2⟩
theorem st_set {B : Nat} {μ : Mu} (h : Inv B μ) (a b : Int32) : Stq B (sp_X7_set μ a b) (fun m => sp_X8_set m a b) := by
  have hS := h.1
  unfold sp_X7_set
  by_cases c : (0 ≤ a ∧ a ≤ 6) ∧ sp_X8_least (nI a.toNatClampNeg) ≤ b ∧ b ≤ sp_X8_most (nI a.toNatClampNeg)
  · rw [if_neg (fun q => (row7 a b).mp q c)]
    obtain ⟨c0, c1⟩ := c
    obtain ⟨i, hi, rfl⟩ := b_in 6 rfl (by omega) c0
    rw [nI_clamp (by omega)] at c1
    have hv : ¬ b ≤ -2000000001 := nle_rg c1 (by
      rcases (show i = 0 ∨ i = 1 ∨ i = 2 ∨ i = 3 ∨ i = 4 ∨ i = 5 ∨ i = 6 by omega) with rfl | rfl | rfl | rfl | rfl | rfl | rfl <;> decide)
    have c1i := rg_int c1
    rw [set_j hi, chs_j hi, rec_0 h]
    refine stp_w (k' := 2 + i) (v' := b) (w := μ.1 8 (2 + i)) h (Nat.le_refl _) ?_ (hS.1.2.2.1 i hi) (hS.2.2.2.2.2.2.2.2.2.1 i hi) ?_
    · have e8 : (pM (sp_X0_record μ) 0 (3 + i) b).1 8 = μ.1 8 := by rw [row_n _ (by omega), rec_7 h (by omega)]
      show sp_X8_set _ (nI i) b = _
      unfold sp_X8_set
      rw [e8, nI_clamp (by omega), if_pos c0, if_pos c1]
    · refine simS_t hS hi (rgs_t hi (simS_R hS) ?_ ?_ ?_) ?_ hv
      · rintro rfl; exact c1i
      · rintro (rfl | rfl) <;> exact c1i
      · rintro rfl; exact c1i
      · rintro rfl
        exact ni_rg (l := 1) (h := 9) c1 (by omega) (by omega)
  · rw [if_pos ((row7 a b).mpr c)]
    refine stp_no h (Nat.le_refl _) ?_
    show sp_X8_set _ a b = _
    unfold sp_X8_set
    by_cases c0 : 0 ≤ a ∧ a ≤ 6
    · rw [if_pos c0, if_neg (fun q => c ⟨c0, q⟩)]
    · rw [if_neg c0]
theorem rowS (w : Int32) (i : Nat) (hi : i < 3) : sp_X7_isInRowS w (nI i) = 0 ↔ ¬ (zl2.getD i 0 ≤ w ∧ w ≤ zl3.getD i 0) := by
  unfold sp_X7_isInRowS
  rw [nI_clamp (by omega), if_neg (nI_pos (by omega)), if_neg (by rw [show (3 : Int32) = nI 3 from rfl, nI_leI (by omega) (by omega)]; omega), if_neg (by rw [show (3 : Int32) = nI 3 from rfl, nI_leI (by omega) (by omega)]; omega)]
  generalize zl2.getD i 0 = x
  generalize zl3.getD i 0 = y
  by_cases c1 : w < x
  · rw [if_pos c1]
    refine ⟨fun _ q => ?_, fun _ => rfl⟩
    have := q.1
    rw [Int32.le_iff_toInt_le] at this; rw [Int32.lt_iff_toInt_lt] at c1; omega
  · rw [if_neg c1]
    by_cases c2 : y < w
    · rw [if_pos c2]
      refine ⟨fun _ q => ?_, fun _ => rfl⟩
      have := q.2
      rw [Int32.le_iff_toInt_le] at this; rw [Int32.lt_iff_toInt_lt] at c2; omega
    · rw [if_neg c2]
      refine ⟨fun q => absurd q (by decide), fun q => (q ⟨?_, ?_⟩).elim⟩
      · rw [Int32.le_iff_toInt_le]; rw [Int32.lt_iff_toInt_lt] at c1; omega
      · rw [Int32.le_iff_toInt_le]; rw [Int32.lt_iff_toInt_lt] at c2; omega
theorem rowS_o {w b : Int32} (c : ¬ ((0 : Int32) ≤ b ∧ b ≤ 2)) : sp_X7_isInRowS w b = 0 := by
  unfold sp_X7_isInRowS
  by_cases c1 : b < 0
  · rw [if_pos c1]
  · rw [if_neg c1, if_pos]
    rw [Int32.le_iff_toInt_le, show (3 : Int32).toInt = 3 by decide]
    rw [Int32.lt_iff_toInt_lt, Int32.toInt_zero] at c1
    apply Classical.byContradiction
    intro q
    apply c
    rw [Int32.le_iff_toInt_le, Int32.le_iff_toInt_le, show (2 : Int32).toInt = 2 by decide, Int32.toInt_zero]
    omega
theorem strain_r (m : Mu) (a w : Int32) {i : Nat} (hi : i < 3) (c : 0 ≤ a ∧ a ≤ (m.1 8 1) - 1) : sp_X8_strain m a (nI i) w = if zl2.getD i 0 ≤ w ∧ w ≤ zl3.getD i 0 then ((sp_X8_acted (pM (pC m 11 0 8 0 259) 8 (85 + 29 * a.toNatClampNeg + (9 + i)) w) (m.1 8 (85 + 29 * a.toNatClampNeg + (9 + i)))).1, (sp_X8_acted (pM (pC m 11 0 8 0 259) 8 (85 + 29 * a.toNatClampNeg + (9 + i)) w) (m.1 8 (85 + 29 * a.toNatClampNeg + (9 + i)))).2) else ((-2000000001), m) := by
  unfold sp_X8_strain
  rw [if_pos c, nI_clamp (show i < 2 ^ 31 by omega)]
  rcases (show i = 0 ∨ i = 1 ∨ i = 2 by omega) with rfl | rfl | rfl
  · rw [if_pos (by decide), if_neg (by decide), if_pos (by decide)]
    show (if (0 : Int32) ≤ w ∧ w ≤ 5000 then _ else _) = if (0 : Int32) ≤ w ∧ w ≤ 5000 then _ else _
    by_cases d : (0 : Int32) ≤ w ∧ w ≤ 5000
    · rw [if_pos d, if_pos d, nI_cl d.1]
    · rw [if_neg d, if_neg d]
  · rw [if_pos (by decide), if_pos (by decide), if_neg (by decide), if_pos (by decide)]
    rfl
  · rw [if_pos (by decide), if_neg (by decide), if_neg (by decide), if_neg (by decide)]
    show (if (0 : Int32) ≤ w ∧ w ≤ 1 then _ else _) = if (0 : Int32) ≤ w ∧ w ≤ 1 then _ else _
    by_cases d : (0 : Int32) ≤ w ∧ w ≤ 1
    · rw [if_pos d, if_pos d, nI_cl d.1]
    · rw [if_neg d, if_neg d]
theorem st_strain {B : Nat} {μ : Mu} (h : Inv B μ) (a b w : Int32) : Stq B (sp_X7_strain μ a b w) (fun m => sp_X8_strain m a b w) := by
  have hS := h.1
  unfold sp_X7_strain
  rw [senI hS]
  by_cases c : 0 ≤ a ∧ a ≤ μ.1 8 1 - 1
  · rw [if_pos c]
    obtain ⟨-, hn⟩ := sen_lt hS c
    have hc := simS_c hS
    by_cases c1 : (0 : Int32) ≤ b ∧ b ≤ 2
    · obtain ⟨i, hi, rfl⟩ := b_in 2 rfl (by omega) c1
      show Stq B (if sp_X7_isInRowS w (nI i) = 0 then _ else _) _
      by_cases c2 : zl2.getD i 0 ≤ w ∧ w ≤ zl3.getD i 0
      · rw [if_neg (fun q => (rowS w i hi).mp q c2), stra_j hi, sets_j hi, rec_0 h]
        have hv : ¬ w ≤ -2000000001 := nle_rg c2 (by
          rcases (show i = 0 ∨ i = 1 ∨ i = 2 by omega) with rfl | rfl | rfl <;> decide)
        refine stp_w (k' := 85 + 29 * a.toNatClampNeg + (9 + i)) (v' := w) (w := μ.1 8 (85 + 29 * a.toNatClampNeg + (9 + i))) h (Nat.le_refl _) ?_ ((simS_N hS hn).2.2.2.2.2 i hi) (simS_B hS (by omega) (by omega)) ?_
        · have e8 : (pM (sp_X0_record μ) 0 (sF a.toNatClampNeg (16 + i)) w).1 8 = μ.1 8 := by rw [row_n _ (by omega), rec_7 h (by omega)]
          show sp_X8_strain _ a (nI i) w = _
          rw [strain_r _ a w hi (by rw [e8]; exact c), if_pos c2, e8]
        · have c2i := rg_int c2
          have hR : RGS (ur (μ.1 8) (85 + 29 * a.toNatClampNeg + (9 + i)) w) := by
            by_cases d : i = 0
            · subst d
              exact rgs_3 (by omega) ⟨by omega, by omega, fun _ => c2i⟩ (simS_R hS)
            · exact rgs_w (by omega) (by omega) (simS_R hS)
          exact simS_g hS hn (by omega) (by omega) (by omega) (by rw [ph_hi (by omega)]; omega) hv (by omega) (by omega) hR
      · rw [if_pos ((rowS w i hi).mpr c2)]
        refine stp_no h (Nat.le_refl _) ?_
        show sp_X8_strain _ a (nI i) w = _
        rw [strain_r _ a w hi c, if_neg c2]
    · show Stq B (if sp_X7_isInRowS w b = 0 then _ else _) _
      rw [if_pos (rowS_o c1)]
      refine stp_no h (Nat.le_refl _) ?_
      show sp_X8_strain _ a b w = _
      unfold sp_X8_strain
      rw [if_pos c, if_neg c1]
  · rw [if_neg c]
    refine stp_no h (Nat.le_refl _) ?_
    show sp_X8_strain _ a b w = _
    unfold sp_X8_strain
    rw [if_neg c]
theorem st_unplug {B : Nat} {μ : Mu} (h : Inv B μ) (a : Int32) : Stq B (sp_X7_unplug μ a) (fun m => sp_X8_unplug m a) := by
  have hS := h.1
  unfold sp_X7_unplug
  rw [senI hS]
  by_cases c : 0 ≤ a ∧ a ≤ μ.1 8 1 - 1
  · rw [if_pos c]
    obtain ⟨-, hn⟩ := sen_lt hS c
    have hc := simS_c hS
    generalize hna : a.toNatClampNeg = n at *
    have hp : PlO (μ.1 0 (sF n 6)) (μ.1 8 (85 + 29 * n + 13)) := hS.2.2.2.1 n hn
    show Stq B (if ¬ μ.1 0 (sF n 6) = -1 then _ else _) _
    by_cases c1 : μ.1 0 (sF n 6) = -1
    · rw [if_neg (fun q => q c1)]
      refine stp_no h (Nat.le_refl _) ?_
      show sp_X8_unplug _ a = _
      unfold sp_X8_unplug
      rw [if_pos c, hna, if_pos ((pl_no hp).mp c1)]
    · rw [if_pos c1, rec_0 h]
      refine stp_w (k' := 85 + 29 * n + 13) (v' := -1) (w := μ.1 8 (85 + 29 * n + 13)) h (Nat.le_refl _) ?_ (told hp c1) (simS_B hS (by omega) (by omega)) ?_
      · have e8 : (pM (sp_X0_record μ) 0 (sF n 6) (-1)).1 8 = μ.1 8 := by rw [row_n _ (by omega), rec_7 h (by omega)]
        show sp_X8_unplug _ a = _
        unfold sp_X8_unplug
        rw [e8, hna, if_pos c, if_neg (fun q => c1 ((pl_no hp).mpr q))]
      · exact simS_p hS hn (Or.inl ⟨rfl, rfl⟩) (by decide) (fun _ _ _ _ => rfl)
  · rw [if_neg c]
    refine stp_no h (Nat.le_refl _) ?_
    show sp_X8_unplug _ a = _
    unfold sp_X8_unplug
    rw [if_neg c]
/-- refused behind keeping -/
theorem stp_nk {B : Nat} {μ : Mu} {r : Int32} {b : Mu → Int32 × Mu} (h : Inv B μ) (e : b μ = (r, pC μ 11 0 8 0 259)) : Stq B (r, μ) b := by
  unfold Stq
  rw [e]
  exact ⟨rfl, inv_kp h (Nat.le_refl _)⟩
theorem can0 {B : Nat} {g s : Nat → Int32} (h : SimS B g s) {n : Nat} (hn : n < cS s) (w : Int32) : sp_X4_canBring g n w = 0 ↔ ¬ (2 ≤ rN s (oN s n) ∧ s (11 + 25 * (oN s n) + 0) ≤ w ∧ w ≤ rL s (oN s n)) := by
  have c := simS_c h
  have hI := simS_RI h
  have e0 : g (sF n 0) = s (85 + 29 * n + 0) := (simS_N h hn).1 0 (by omega)
  have ot := (hI.2.2.2 n (by omega)).1
  have hS := (simS_R h).2 n hn
  unfold sp_X4_canBring
  rw [tabI h, e0]
  have ho : oN s n < (s 0).toNatClampNeg := by
    apply Classical.byContradiction
    intro q
    have z := h.2.2.2.2.2.1 (oN s n) ot.2 (by omega)
    have h2 := hS.2.1
    unfold rN at h2
    rw [z] at h2
    exact absurd h2 (by decide)
  have q : 0 ≤ s (85 + 29 * n + 0) ∧ s (85 + 29 * n + 0) ≤ s 0 - 1 := by
    have o3 := ot.2
    have k4 := hI.1.2
    refine (ni_pr hI.1 (by omega)).mp ⟨?_, ?_⟩
    · rw [ot.1]; exact nI_pos' (by omega)
    · rw [ot.1, hI.1.1]; exact nI_lt ho (by omega)
  rw [if_pos q]
  show (if sp_X5_goesTo g (oN s n) w = 0 then (0 : Int32) else 1) = 0 ↔ _
  have g0 := goes0 h.1 (t := oN s n) ot.2 hI w
  by_cases d : sp_X5_goesTo g (oN s n) w = 0
  · rw [if_pos d]; exact ⟨fun _ => g0.mp d, fun _ => rfl⟩
  · rw [if_neg d]; exact ⟨fun q => absurd q (by decide), fun q => (d (g0.mpr q)).elim⟩
