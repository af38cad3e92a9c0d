/-! ===== calls that only tell; measuring calls; the log ===== -/
theorem stq_rd {B : Nat} {μ : Mu} {x : Int32} {b : Mu → Int32 × Mu} (h : Inv B μ) (e : b μ = (x, μ)) : Stq B (x, μ) b := stp_no h (Nat.le_refl _) e
theorem st_nodeAt {B : Nat} {μ : Mu} (h : Inv B μ) (a b w : Int32) : Stq B (sp_X7_nodeAt (μ.1 0) a b w, μ) (fun m => (sp_X8_nodeAt (m.1 8) a b w, m)) := stq_rd h (by rw [eq_nodeAt h.1.1 (simS_RI h.1)])
theorem st_ratio {B : Nat} {μ : Mu} (h : Inv B μ) (a b : Int32) : Stq B (sp_X7_ratio (μ.1 0) a b, μ) (fun m => (sp_X8_ratio (m.1 8) a b, m)) := stq_rd h (by rw [eq_ratio h.1.1 (simS_RI h.1) (simS_R h.1).1.2.1])
theorem st_inverse {B : Nat} {μ : Mu} (h : Inv B μ) (a b : Int32) : Stq B (sp_X7_inverse (μ.1 0) a b, μ) (fun m => (sp_X8_inverse (m.1 8) a b, m)) := stq_rd h (by rw [eq_inverse h.1.1 (simS_RI h.1) (simS_R h.1).1.2.1])
theorem st_slotAt {B : Nat} {μ : Mu} (h : Inv B μ) (a b : Int32) : Stq B (sp_X7_slotAt (μ.1 0) a b, μ) (fun m => (sp_X8_slotAt (m.1 8) a b, m)) := stq_rd h (by rw [eq_slotAt h.1.1.2.1 (simS_RI h.1) h.1.2.2.2.1])
theorem eq_sensorOf2 {B : Nat} {g s : Nat → Int32} (h : SimS B g s) (a b : Int32) : sp_X7_sensorOf g a b = sp_X8_sensorOf s a b := eq_sensorOf h.1.2.1 (simS_RI h) (fun _ hn => simS_N h hn) a b
theorem st_sensorOf {B : Nat} {μ : Mu} (h : Inv B μ) (a b : Int32) : Stq B (sp_X7_sensorOf (μ.1 0) a b, μ) (fun m => (sp_X8_sensorOf (m.1 8) a b, m)) := stq_rd h (by rw [eq_sensorOf2 h.1])
/-- the log's shape -/
theorem kept_eq {B n : Nat} {g s : Nat → Int32} (h : SimS B g s) (hB : B < 2 ^ 30) (hn : n < cS s) : ∃ r, r ≤ B ∧ g (sF n 11) = nI r ∧ s (85 + 29 * n + 19) = nI (min r 9) ∧ sp_X3_keptReadings g n = nI (min r 9) ∧ ∀ i, i < min r 9 → g (sF n (19 + i)) = s (85 + 29 * n + (19 + min r 9 - i)) := by
  have c := simS_c h
  obtain ⟨r, a1, a2, a3, a4⟩ := (h.2.2.1 n (by omega)).2
  refine ⟨r, a1, a2, a3, ?_, a4⟩
  unfold sp_X3_keptReadings mnI
  rw [show g (sF n 11) = nI r from a2, show (9 : Int32) = nI 9 from rfl]
  by_cases d : 9 < r
  · rw [if_pos ((nI_ltI (by omega) (by omega)).mpr d), show min r 9 = 9 by omega]
  · rw [if_neg (fun q => d ((nI_ltI (by omega) (by omega)).mp q)), show min r 9 = r by omega]
theorem rdg_j {g : Nat → Int32} {n j : Nat} (hj : j < 9) : sp_X3_reading g n (nI j) = g (sF n (19 + j)) := by
  unfold sp_X3_reading
  rw [if_neg (nI_pos (by omega)), if_neg (by rw [show (9 : Int32) = nI 9 from rfl, nI_leI (by omega) (by omega)]; omega), nI_clamp (by omega)]
theorem st_readingAt {B : Nat} {μ : Mu} (h : Inv B μ) (hB : B < 2 ^ 30) (a b : Int32) : Stq B (sp_X7_readingAt (μ.1 0) a b, μ) (fun m => (sp_X8_readingAt (m.1 8) a b, m)) := by
  have hS := h.1
  refine stq_rd h ?_
  have key : sp_X8_readingAt (μ.1 8) a b = sp_X7_readingAt (μ.1 0) a b := by
    unfold sp_X7_readingAt sp_X8_readingAt
    rw [senI hS]
    by_cases c : 0 ≤ a ∧ a ≤ μ.1 8 1 - 1
    · rw [if_pos c, if_pos c]
      obtain ⟨-, hn⟩ := sen_lt hS c
      generalize hna : a.toNatClampNeg = n at *
      obtain ⟨r, -, -, a3, a4, a5⟩ := kept_eq hS hB hn
      show _ = (if (0 : Int32) ≤ b then _ else _)
      by_cases c1 : (0 : Int32) ≤ b
      · rw [if_pos c1, if_pos c1, a3, a4, nI_clamp (by omega)]
        by_cases c2 : nI (min r 9) ≤ b
        · rw [if_pos c2, if_pos c2]
        · rw [if_neg c2, if_neg c2]
          obtain ⟨j, hj, rfl⟩ := nI_of (x := b) (fun q => by rw [Int32.le_iff_toInt_le] at c1; rw [Int32.lt_iff_toInt_lt] at q; omega)
          rw [nI_leI (by omega) hj] at c2
          rw [rdg_j (by omega), nI_clamp hj, a5 j (by omega), show 20 + min r 9 - 1 - j = 19 + min r 9 - j by omega]
      · rw [if_neg c1, if_neg c1]
    · rw [if_neg c, if_neg c]
      rfl
  show (sp_X8_readingAt (μ.1 8) a b, μ) = _
  rw [key]
theorem inv_tk {B : Nat} {μ : Mu} (h : Inv B μ) (z j n : Nat) (cu : Int32) : Inv B (tkJ μ z j n cu) := h
theorem st_counts {B : Nat} {μ : Mu} (h : Inv B μ) (a cu lp wy : Int32) : Stq B (sp_X7_counts μ a cu lp wy) (fun m => (sp_X8_counts (m.1 8) a cu lp wy, m)) := by
  have hS := h.1
  unfold sp_X7_counts
  rw [senI hS]
  by_cases c : 0 ≤ a ∧ a ≤ μ.1 8 1 - 1
  · rw [if_pos c]
    obtain ⟨-, hn⟩ := sen_lt hS c
    have hc7 := simS_c hS
    generalize hna : a.toNatClampNeg = n at *
    show Stq B (if (100 : Int64) ≤ cu.toInt64 ∧ cu.toInt64 ≤ (5000 : Int64) then _ else _) _
    have i1 : (100 : Int64) ≤ cu.toInt64 ∧ cu.toInt64 ≤ 5000 ↔ (100 : Int32) ≤ cu ∧ cu ≤ 5000 := i2g (by decide) (by decide)
    have i3 : (0 : Int64) ≤ wy.toInt64 ∧ wy.toInt64 ≤ 2 ↔ (0 : Int32) ≤ wy ∧ wy ≤ 2 := i2g (by decide) (by decide)
    by_cases c1 : (100 : Int32) ≤ cu ∧ cu ≤ 5000
    · rw [if_pos (i1.mpr c1)]
      have hc := rg_int c1
      rw [show (100 : Int32).toInt = 100 by decide, show (5000 : Int32).toInt = 5000 by decide] at hc
      by_cases c2 : (0 : Int32) ≤ lp ∧ lp ≤ 1
      · rw [if_pos ((i2l lp).mpr c2)]
        by_cases c3 : (0 : Int32) ≤ wy ∧ wy ≤ 2
        · rw [if_pos (i3.mpr c3)]
          obtain ⟨i, hi, rfl⟩ := b_in 1 rfl (by omega) c2
          obtain ⟨k, hk, rfl⟩ := b_in 2 rfl (by omega) c3
          have hW := ((simS_RI hS).2.2.2 n (by omega)).2.2
          have fin : ∀ x : Int32, sp_X8_counts (μ.1 8) a cu (nI i) (nI k) = x → Stq B (x, tkJ μ 2 0 n cu) (fun m => (sp_X8_counts (m.1 8) a cu (nI i) (nI k), m)) := fun x e => ⟨e.symm, inv_tk h 2 0 n cu⟩
          have ref : (nI i = 1 → μ.1 8 (85 + 29 * n + 1) = 3) → sp_X8_counts (μ.1 8) a cu (nI i) (nI k) = (sp_X8_countsOf (μ.1 8) n cu (nI i) (nI k)).toInt32 := by
            intro q
            unfold sp_X8_counts
            rw [if_pos c, if_pos c1, if_pos c2, if_pos c3, hna, nI_clamp (show i < 2 ^ 31 by omega), nI_clamp (show k < 2 ^ 31 by omega), ni_eq hW]
            by_cases z : nI i = 1
            · rw [if_pos z, if_pos (q z)]
            · rw [if_neg z]
          have e2 : ∀ x : Int32, sp_X8_countsOf (μ.1 8) n cu x 2 = (sp_X8_countsOneWay (μ.1 8) n cu x 0 - sp_X8_countsOneWay (μ.1 8) n cu x 1) / 2 := fun x => if_pos rfl
          have e0 : ∀ x : Int32, sp_X8_countsOf (μ.1 8) n cu x 0 = sp_X8_countsOneWay (μ.1 8) n cu x 0 := fun x => if_neg (by decide)
          have e1 : ∀ x : Int32, sp_X8_countsOf (μ.1 8) n cu x 1 = sp_X8_countsOneWay (μ.1 8) n cu x 1 := fun x => if_neg (by decide)
          rw [show μ.1 0 (sF n 1) = μ.1 8 (85 + 29 * n + 1) from (simS_N hS hn).1 1 (by omega), one_eq hS hn hc, oth_eq hS hn hc, on2_eq hS hn hc, ot2_eq hS hn hc]
          rcases (show i = 0 ∨ i = 1 by omega) with rfl | rfl
          · have r := ref (fun q => absurd q (by decide))
            rw [if_neg (show ¬ nI 0 = 1 by decide)]
            rw [if_pos (show nI 0 = 0 from rfl)]
            simp only [if_pos (show nI 0 = 0 from rfl)]
            rcases (show k = 0 ∨ k = 1 ∨ k = 2 by omega) with rfl | rfl | rfl
            · rw [if_neg (show ¬ nI 0 = 2 by decide)]
              exact fin _ (r.trans (by rw [show nI 0 = (0 : Int32) from rfl, e0]))
            · rw [if_neg (show ¬ nI 1 = 2 by decide), if_neg (show ¬ nI 1 = 0 by decide)]
              exact fin _ (r.trans (by rw [show nI 0 = (0 : Int32) from rfl, show nI 1 = (1 : Int32) from rfl, e1]))
            · rw [if_pos (show nI 2 = 2 from rfl)]
              exact fin _ (r.trans (by rw [show nI 0 = (0 : Int32) from rfl, show nI 2 = (2 : Int32) from rfl, e2]))
          · rw [if_pos (show nI 1 = 1 from rfl)]
            by_cases z : μ.1 8 (85 + 29 * n + 1) = 3
            · have r := ref (fun _ => z)
              rw [if_pos z]
              simp only [if_neg (show ¬ nI 1 = 0 by decide)]
              rcases (show k = 0 ∨ k = 1 ∨ k = 2 by omega) with rfl | rfl | rfl
              · rw [if_neg (show ¬ nI 0 = 2 by decide), if_pos (show nI 0 = 0 from rfl)]
                exact fin _ (r.trans (by rw [show nI 1 = (1 : Int32) from rfl, show nI 0 = (0 : Int32) from rfl, e0]))
              · rw [if_neg (show ¬ nI 1 = 2 by decide)]
                exact fin _ (r.trans (by rw [show nI 1 = (1 : Int32) from rfl, e1]))
              · rw [if_pos (show nI 2 = 2 from rfl)]
                exact fin _ (r.trans (by rw [show nI 1 = (1 : Int32) from rfl, show nI 2 = (2 : Int32) from rfl, e2]))
            · rw [if_neg z]
              refine stq_rd h ?_
              show (sp_X8_counts (μ.1 8) a cu (nI 1) (nI k), μ) = _
              congr 1
              unfold sp_X8_counts
              rw [if_pos c, if_pos c1, if_pos c2, if_pos c3, hna, if_pos (by decide), ni_eq hW, if_neg z]
        · rw [if_neg (fun q => c3 (i3.mp q))]
          refine stq_rd h ?_
          show (sp_X8_counts (μ.1 8) a cu lp wy, μ) = _
          congr 1
          unfold sp_X8_counts
          rw [if_pos c, if_pos c1, if_pos c2, if_neg c3]
      · rw [if_neg (fun q => c2 ((i2l lp).mp q))]
        refine stq_rd h ?_
        show (sp_X8_counts (μ.1 8) a cu lp wy, μ) = _
        congr 1
        unfold sp_X8_counts
        rw [if_pos c, if_pos c1, if_neg c2]
    · rw [if_neg (fun q => c1 (i1.mp q))]
      refine stq_rd h ?_
      show (sp_X8_counts (μ.1 8) a cu lp wy, μ) = _
      congr 1
      unfold sp_X8_counts
      rw [if_pos c, if_neg c1]
  · rw [if_neg c]
    refine stq_rd h ?_
    show (sp_X8_counts (μ.1 8) a cu lp wy, μ) = _
    congr 1
    unfold sp_X8_counts
    rw [if_neg c]
theorem st_ohms {B : Nat} {μ : Mu} (h : Inv B μ) (a b : Int32) : Stq B (sp_X7_ohms μ a b) (fun m => (sp_X8_ohms (m.1 8) a b, m)) := by
  have hS := h.1
  unfold sp_X7_ohms
  rw [senI hS]
  by_cases c : 0 ≤ a ∧ a ≤ μ.1 8 1 - 1
  · rw [if_pos c]
    obtain ⟨-, hn⟩ := sen_lt hS c
    have hc7 := simS_c hS
    generalize hna : a.toNatClampNeg = n at *
    show Stq B (if (0 : Int64) ≤ b.toInt64 ∧ b.toInt64 ≤ (5 : Int64) then _ else _) _
    have i1 : (0 : Int64) ≤ b.toInt64 ∧ b.toInt64 ≤ 5 ↔ (0 : Int32) ≤ b ∧ b ≤ 5 := i2g (by decide) (by decide)
    by_cases c1 : (0 : Int32) ≤ b ∧ b ≤ 5
    · rw [if_pos (i1.mpr c1)]
      obtain ⟨k, hk, rfl⟩ := b_in 5 rfl (by omega) c1
      have hG := (simS_R hS).1
      have r3 := hG.2.2.2.1
      have r4 := hG.2.2.2.2.1
      obtain ⟨e1, e2, ew⟩ := wop_eq hS hn
      have fin : ∀ x : Int32, sp_X8_ohms (μ.1 8) a (nI k) = x → Stq B (x, msr μ 0 n) (fun m => (sp_X8_ohms (m.1 8) a (nI k), m)) := fun x e => ⟨by show x = sp_X8_ohms ((msr μ 0 n).1 8) a (nI k); rw [ms_M _ _ (by omega)]; exact e.symm, inv_ms h (Nat.le_refl _) n⟩
      have e0 : sp_X8_countsOf (μ.1 8) n (μ.1 8 3) 0 0 = sp_X8_countsOneWay (μ.1 8) n (μ.1 8 3) 0 0 := if_neg (by decide)
      rw [e1, e2, ew, ht_eq hS hn r3, one_eq hS hn r3, by_eq hS, lpo_eq hS hn r3, cps_eq hS hn r3, cps_eq hS hn r4, ← e0]
      rcases (show k = 0 ∨ k = 1 ∨ k = 2 ∨ k = 3 ∨ k = 4 ∨ k = 5 by omega) with rfl | rfl | rfl | rfl | rfl | rfl
      · rw [if_pos (show nI 0 = 0 from rfl)]
        refine fin _ ?_
        unfold sp_X8_ohms
        rw [if_pos c, if_pos c1, hna, nI_clamp (by omega), if_pos (show nI 0 = 0 from rfl)]
      · rw [if_neg (show ¬ nI 1 = 0 by decide), if_pos (show nI 1 = 1 from rfl)]
        refine fin _ ?_
        unfold sp_X8_ohms
        rw [if_pos c, if_pos c1, hna, nI_clamp (by omega), if_neg (show ¬ nI 1 = 0 by decide), if_pos (show nI 1 = 1 from rfl), if_pos (show nI 1 = 1 from rfl)]
      · rw [if_neg (show ¬ nI 2 = 0 by decide), if_neg (show ¬ nI 2 = 1 by decide), if_pos (show nI 2 = 2 from rfl)]
        refine fin _ ?_
        unfold sp_X8_ohms
        rw [if_pos c, if_pos c1, hna, nI_clamp (by omega), if_neg (show ¬ nI 2 = 0 by decide), if_neg (show ¬ nI 2 = 1 by decide), if_pos (show nI 2 = 2 from rfl), if_neg (show ¬ nI 2 = 1 by decide)]
      · rw [if_neg (show ¬ nI 3 = 0 by decide), if_neg (show ¬ nI 3 = 1 by decide), if_neg (show ¬ nI 3 = 2 by decide), if_pos (show nI 3 = 3 from rfl)]
        refine fin _ ?_
        unfold sp_X8_ohms
        rw [if_pos c, if_pos c1, hna, nI_clamp (by omega), if_neg (show ¬ nI 3 = 0 by decide), if_neg (show ¬ nI 3 = 1 by decide), if_neg (show ¬ nI 3 = 2 by decide), if_pos (show nI 3 = 3 from rfl)]
      · rw [if_neg (show ¬ nI 4 = 0 by decide), if_neg (show ¬ nI 4 = 1 by decide), if_neg (show ¬ nI 4 = 2 by decide), if_neg (show ¬ nI 4 = 3 by decide), if_pos (show nI 4 = 4 from rfl)]
        refine fin _ ?_
        unfold sp_X8_ohms
        rw [if_pos c, if_pos c1, hna, nI_clamp (by omega), if_neg (show ¬ nI 4 = 0 by decide), if_neg (show ¬ nI 4 = 1 by decide), if_neg (show ¬ nI 4 = 2 by decide), if_neg (show ¬ nI 4 = 3 by decide), if_pos (show nI 4 = 4 from rfl)]
      · rw [if_neg (show ¬ nI 5 = 0 by decide), if_neg (show ¬ nI 5 = 1 by decide), if_neg (show ¬ nI 5 = 2 by decide), if_neg (show ¬ nI 5 = 3 by decide), if_neg (show ¬ nI 5 = 4 by decide)]
        refine fin _ ?_
        unfold sp_X8_ohms
        rw [if_pos c, if_pos c1, hna, nI_clamp (by omega), if_neg (show ¬ nI 5 = 0 by decide), if_neg (show ¬ nI 5 = 1 by decide), if_neg (show ¬ nI 5 = 2 by decide), if_neg (show ¬ nI 5 = 3 by decide), if_neg (show ¬ nI 5 = 4 by decide)]
    · rw [if_neg (fun q => c1 (i1.mp q))]
      refine stq_rd h ?_
      show (sp_X8_ohms (μ.1 8) a b, μ) = _
      congr 1
      unfold sp_X8_ohms
      rw [if_pos c, if_neg c1]
  · rw [if_neg c]
    refine stq_rd h ?_
    show (sp_X8_ohms (μ.1 8) a b, μ) = _
    congr 1
    unfold sp_X8_ohms
    rw [if_neg c]
theorem st_diagnosis {B : Nat} {μ : Mu} (h : Inv B μ) (a : Int32) : Stq B (sp_X7_diagnosis μ a) (fun m => (sp_X8_diagnosis (m.1 8) a, m)) := by
  have hS := h.1
  unfold sp_X7_diagnosis
  rw [senI hS]
  by_cases c : 0 ≤ a ∧ a ≤ μ.1 8 1 - 1
  · rw [if_pos c]
    obtain ⟨-, hn⟩ := sen_lt hS c
    show Stq B (dgn (μ.1 0) a.toNatClampNeg, msr μ 0 a.toNatClampNeg) _
    rw [dgn_eq hS hn]
    refine ⟨?_, inv_ms h (Nat.le_refl _) _⟩
    show _ = sp_X8_diagnosis ((msr μ 0 a.toNatClampNeg).1 8) a
    rw [ms_M _ _ (by omega)]
    unfold sp_X8_diagnosis
    rw [if_pos c]
  · rw [if_neg c]
    refine stq_rd h ?_
    show (sp_X8_diagnosis (μ.1 8) a, μ) = _
    congr 1
    unfold sp_X8_diagnosis
    rw [if_neg c]
theorem st_calibrate {B : Nat} {μ : Mu} (h : Inv B μ) (a b : Int32) : Stq B (sp_X7_calibrate μ a b) (fun m => sp_X8_calibrate m a b) := by
  have hS := h.1
  unfold sp_X7_calibrate
  rw [senI hS]
  by_cases c : 0 ≤ a ∧ a ≤ μ.1 8 1 - 1
  · rw [if_pos c]
    obtain ⟨-, hn⟩ := sen_lt hS c
    have hc7 := simS_c hS
    generalize hna : a.toNatClampNeg = n at *
    show Stq B (if (-200000 : Int64) ≤ b.toInt64 ∧ b.toInt64 ≤ 850000 then _ else _) _
    by_cases c1 : (-200000 : Int32) ≤ b ∧ b ≤ 850000
    · rw [if_pos ((i2t b).mpr c1)]
      have i14 : (1 : Int64) ≤ (dgn (μ.1 0) n).toInt64 ∧ (dgn (μ.1 0) n).toInt64 ≤ (4 : Int64) ↔ (1 : Int32) ≤ dgn (μ.1 0) n ∧ dgn (μ.1 0) n ≤ 4 := i2g (by decide) (by decide)
      have hM := inv_ms h (Nat.le_refl _) n
      have e8 : (msr μ 0 n).1 8 = μ.1 8 := ms_M _ _ (by omega)
      have e0 : (msr μ 0 n).1 0 = μ.1 0 := ms_M _ _ (by omega)
      by_cases c2 : (1 : Int32) ≤ sp_X8_diagnosed (μ.1 8) n ∧ sp_X8_diagnosed (μ.1 8) n ≤ 4
      · rw [if_pos (i14.mpr (by rw [dgn_eq hS hn]; exact c2))]
        refine stq_rd hM ?_
        show sp_X8_calibrate _ a b = _
        unfold sp_X8_calibrate
        rw [e8, hna, if_pos c, if_pos c1, if_pos c2]
      · rw [if_neg (fun q => c2 (by rw [← dgn_eq hS hn]; exact i14.mp q))]
        by_cases c3 : 2 ≤ rN (μ.1 8) (oN (μ.1 8) n) ∧ μ.1 8 (11 + 25 * (oN (μ.1 8) n) + 0) ≤ b ∧ b ≤ rL (μ.1 8) (oN (μ.1 8) n)
        · rw [if_neg (fun q => (can0 hS hn b).mp q c3)]
          obtain ⟨to, o3⟩ := tabO hS hn
          have hG := (simS_R hS).1
          have hT := hG.2.1 _ o3
          have rb := rat_bd hT.1 hT.2 c3.1 (Int32.le_iff_toInt_le.mp c3.2.1) c3.2.2
          have eb : sp_X4_baseFor (μ.1 0) n (wop (μ.1 0) n) b = (sp_X8_without (μ.1 8) n * 1000000) / (sp_X8_ratioAt (μ.1 8) (oN (μ.1 8) n) b).toInt64 := by
            unfold sp_X4_baseFor
            rw [to, (wop_eq hS hn).2.2]
            show (if (0 : Int64) < (sp_X5_ratioAt (μ.1 0) (oN (μ.1 8) n) b).toInt64 then _ else _) = _
            rw [eq_ratioAt hS.1 o3 hG.1 hT.1 hT.2 c3.1 c3.2.1 c3.2.2, if_pos (by rw [Int64.lt_iff_toInt_lt, Int32.toInt_toInt64, show (0 : Int64).toInt = 0 by decide]; omega)]
          rw [eb]
          generalize hz : (sp_X8_without (μ.1 8) n * 1000000) / (sp_X8_ratioAt (μ.1 8) (oN (μ.1 8) n) b).toInt64 = z
          by_cases c4 : (1000 : Int64) ≤ z ∧ z ≤ 2000000
          · rw [if_pos c4]
            have hl := l2i c4
            have hv : ¬ z.toInt32 ≤ -2000000001 := nle_bd (by omega)
            refine stp_w (μ := msr μ 0 n) (k' := 85 + 29 * n + 3) (v' := z.toInt32) (w := z.toInt32) hM (Nat.le_refl _) ?_ rfl hv ?_
            · have e8' : (pM (sp_X0_record (msr μ 0 n)) 0 (sF n 3) z.toInt32).1 8 = μ.1 8 := by rw [row_n _ (by omega), rec_7 hM (by omega), e8]
              show sp_X8_calibrate _ a b = _
              unfold sp_X8_calibrate
              rw [e8', hna, if_pos c, if_pos c1, if_neg c2, if_pos c3, hz, if_pos c4]
            · rw [e8, e0]
              exact simS_g hS hn (by omega) (by omega) (by omega) rfl hv (by omega) (by omega) (rgs_3 (by omega) ⟨by omega, fun _ => hl, by omega⟩ (simS_R hS))
          · rw [if_neg c4]
            refine stq_rd hM ?_
            show sp_X8_calibrate _ a b = _
            unfold sp_X8_calibrate
            rw [e8, hna, if_pos c, if_pos c1, if_neg c2, if_pos c3, hz, if_neg c4]
        · rw [if_pos ((can0 hS hn b).mpr c3)]
          refine stq_rd hM ?_
          show sp_X8_calibrate _ a b = _
          unfold sp_X8_calibrate
          rw [e8, hna, if_pos c, if_pos c1, if_neg c2, if_neg c3]
    · rw [if_neg (fun q => c1 ((i2t b).mp q))]
      refine stq_rd h ?_
      show sp_X8_calibrate _ a b = _
      unfold sp_X8_calibrate
      rw [if_pos c, if_neg c1]
  · rw [if_neg c]
    refine stq_rd h ?_
    show sp_X8_calibrate _ a b = _
    unfold sp_X8_calibrate
    rw [if_neg c]
