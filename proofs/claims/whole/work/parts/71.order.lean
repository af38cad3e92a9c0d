/-! ===== one order ===== -/
def dX (f : Int32 × Mu) : Int32 × Mu := if (-2000000001 : Int32) < f.1 then (0, f.2) else (3, f.2)
theorem dX_ok {w : Int32} {y : Mu} (h : ¬ w ≤ -2000000001) : dX (w, y) = (0, y) := by
  unfold dX
  rw [if_pos]
  show (-2000000001 : Int32) < w
  rw [Int32.lt_iff_toInt_lt]
  rw [Int32.le_iff_toInt_le] at h
  omega
theorem dX_no {w : Int32} {y : Mu} (h : w ≤ -2000000001) : dX (w, y) = (3, y) := by
  unfold dX
  rw [if_neg]
  show ¬ (-2000000001 : Int32) < w
  rw [Int32.lt_iff_toInt_lt]
  rw [Int32.le_iff_toInt_le] at h
  omega
theorem dn_eq (y : Mu) {c : Int32} {rf : Int32 × Mu} (hc : y.1 12 ((y.1 7 2).toNatClampNeg) = c) (hr : sp_X8_readsForm (pM y 7 2 (nI ((y.1 7 2).toNatClampNeg + 1))) c = rf) : sp_X8_doesNext y = if rf.1 = 0 then (1, rf.2) else if c = 115 then dX (sp_X8_does rf.2 c) else if c = 98 then (if (0 ≤ (rf.2.1 13 0) ∧ (rf.2.1 13 0) ≤ (rf.2.1 8 1) - 1) ∧ 0 ≤ (rf.2.1 13 1) ∧ (rf.2.1 13 1) ≤ (rf.2.1 8 (85 + 29 * (rf.2.1 13 0).toNatClampNeg + 1)) - 1 then dX (sp_X8_does rf.2 c) else (2, rf.2)) else if c = 109 then (if (0 ≤ (rf.2.1 13 0) ∧ (rf.2.1 13 0) ≤ (rf.2.1 8 1) - 1) ∧ 0 ≤ (rf.2.1 13 1) ∧ (rf.2.1 13 1) ≤ (rf.2.1 8 (85 + 29 * (rf.2.1 13 0).toNatClampNeg + 1)) - 1 then dX (sp_X8_does rf.2 c) else (2, rf.2)) else (if 0 ≤ (rf.2.1 13 0) ∧ (rf.2.1 13 0) ≤ (rf.2.1 8 1) - 1 then dX (sp_X8_does rf.2 c) else (2, rf.2)) := by
  unfold sp_X8_doesNext
  rw [hc, hr]
  rfl
def OB (B : Nat) (m1 y1 : Mu) (a d : Int32 × Mu) : Prop := a.2.2.2 = m1.2.2 ∧ (∀ c, c ≠ 1 → c ≠ 6 → a.2.1 c = m1.1 c) ∧ (∀ k, k ≠ 1 → k ≠ 2 → a.2.1 6 k = m1.1 6 k) ∧ d.2.2 = y1.2 ∧ (∀ c, c ≠ 8 → d.2.1 c = y1.1 c) ∧ ∃ c, c < 4 ∧ a.1 = nI c ∧ d.1 = nI c ∧ (c = 0 → SimS (B + 1) (a.2.1 1) (d.2.1 8))
theorem ob_no {B c : Nat} {m1 y1 : Mu} {a d : Int32} (hc : c < 4) (h0 : c ≠ 0) (ha : a = nI c) (hd : d = nI c) : OB B m1 y1 (a, m1) (d, y1) := ⟨rfl, fun _ _ _ => rfl, fun _ _ _ => rfl, rfl, fun _ _ => rfl, c, hc, ha, hd, fun q => absurd q h0⟩
theorem ob_s {B : Nat} {m1 y1 : Mu} (h : SimS B (m1.1 1) (y1.1 8)) (hB : B < 2 ^ 30) (hc : m1.1 6 4 = 115) : OB B m1 y1 (sp_X7_obey m1) (dX (sp_X8_does y1 115)) := by
  have ed : sp_X8_does y1 115 = sp_X8_scans y1 := by
    unfold sp_X8_does
    rw [if_neg (by decide), if_neg (by decide), if_neg (by decide), if_neg (by decide)]
  rw [ed]
  unfold sp_X7_obey
  rw [hc, if_pos rfl]
  have c7 := simS_c h
  rcases scn_eq h with ⟨e1, e2⟩ | ⟨n, q, hn, hq, e1, e2, e3⟩
  · rw [e1, senI h, if_neg (fun z => absurd z.1 (by decide)), e2, dX_no (by decide)]
    exact ob_no (c := 3) (by omega) (by omega) rfl rfl
  · rw [e1, senI h, if_pos (reads_0 (x := y1) h hn), nI_clamp (by omega)]
    rw [oc_some rfl]
    rw [if_neg (show ¬ (115 : Int32) = 116 by decide), if_neg (show ¬ (115 : Int32) = 98 by decide), if_neg (show ¬ (115 : Int32) = 109 by decide)]
    rcases sc_sim h hB (by omega) hn hq e2 with ⟨d0, y, y1', y2, y3, y4, t1, t2, t3, y5⟩ | ⟨d0, y1', t1, t2, t3, y5⟩
    · rw [if_pos d0, e3, y1', if_neg y2, dX_ok (nle_bd (by rw [nI_toInt (by omega)]; omega))]
      exact ⟨t1, t2, t3, y3, y4, 0, by omega, rfl, rfl, fun _ => y5⟩
    · have hno : ¬ -1 - nI n ≤ -2000000001 := by
        have : ∀ n, n < 7 → ¬ -1 - nI n ≤ -2000000001 := by decide +kernel
        exact this n (by omega)
      rw [if_neg d0, e3, y1', if_pos (show (-2000000002 : Int32) ≤ -2000000001 by decide), dX_ok hno]
      exact ⟨t1, t2, t3, rfl, fun c hc => row_n _ hc, 0, by omega, rfl, rfl, fun _ => simS_mono y5 (Nat.le_succ _)⟩
/-- the orders of a sensor that there is -/
theorem ob_n {m1 : Mu} {n : Nat} {c : Int32} (hc : m1.1 6 4 = c) (h115 : ¬ c = 115) (h5 : sp_X4_sensorAt (m1.1 1) (m1.1 6 5) = some n) : sp_X7_obey m1 = if c = 116 then sp_X7_obeyBath m1 n else if c = 98 then sp_X7_obeyCut m1 n else if c = 109 then sp_X7_obeyCut m1 n else if (dgn (m1.1 1) n : Int32) = 0 then (0, sp_X3_log (msr m1 1 n) 1 n (rdg (m1.1 1) n)) else (3, msr m1 1 n) := by
  unfold sp_X7_obey
  rw [hc, if_neg h115, h5]
  rfl
theorem ob_0 {m1 : Mu} {c : Int32} (hc : m1.1 6 4 = c) (h115 : ¬ c = 115) (h5 : sp_X4_sensorAt (m1.1 1) (m1.1 6 5) = none) : sp_X7_obey m1 = (2, m1) := by
  unfold sp_X7_obey
  rw [hc, if_neg h115, h5]
  rfl
theorem ob_r {B v : Nat} {m1 y1 : Mu} (h : SimS B (m1.1 1) (y1.1 8)) (hB : B < 2 ^ 30) (hc : m1.1 6 4 = 114) (h5 : m1.1 6 5 = nI v) (h13 : y1.1 13 0 = nI v) (hv : v < 2 ^ 31) : OB B m1 y1 (sp_X7_obey m1) (if 0 ≤ (y1.1 13 0) ∧ (y1.1 13 0) ≤ (y1.1 8 1) - 1 then dX (sp_X8_does y1 114) else (2, y1)) := by
  have ed : sp_X8_does y1 114 = sp_X8_reads y1 (nI v) := by
    unfold sp_X8_does
    rw [if_neg (by decide), if_neg (by decide), if_pos rfl, h13]
  rw [ed, h13]
  have es := senI h (m1.1 6 5)
  rw [h5, nI_clamp hv] at es
  by_cases c : 0 ≤ nI v ∧ nI v ≤ y1.1 8 1 - 1
  · rw [if_pos c] at es ⊢
    obtain ⟨-, hn⟩ := sen_lt h c
    rw [nI_clamp hv] at hn
    have c7 := simS_c h
    rw [ob_n hc (by decide) (by rw [h5]; exact es), if_neg (by decide), if_neg (by decide), if_neg (by decide), dgn_eq h hn]
    have eM : (msr m1 1 v).1 1 = m1.1 1 := ms_M _ _ (by omega)
    have f1 : ∀ c, c ≠ 1 → c ≠ 6 → (msr m1 1 v).1 c = m1.1 c := fun c _ h2 => ms_M _ _ h2
    have f2 : ∀ k, k ≠ 1 → k ≠ 2 → (msr m1 1 v).1 6 k = m1.1 6 k := fun k a b => ms_6 _ _ _ a b
    by_cases d : sp_X8_diagnosed (y1.1 8) v = 0
    · rw [if_pos d]
      obtain ⟨y, q1, q2, q3, q4⟩ := rd_sim (B := B) (j := 1) (n := v) (m := msr m1 1 v) (x := y1) (by rw [eM]; exact h) hB hn d
      have hA : ni 2 ((msr m1 1 v).1 1 (sF v 10)) := by
        rw [eM, show m1.1 1 (sF v 10) = y1.1 8 (85 + 29 * v + 17) from (simS_N h hn).2.2.2.1 3 (by omega)]
        exact (h.2.2.2.2.2.2.2.2.2.2 v (by omega)).2.2
      obtain ⟨l1, l2, -⟩ := lg_row (msr m1 1 v) 1 v (rdg (m1.1 1) v) hA
      have ok := dg_ok h hn d
      rw [q1, dX_ok ok]
      rw [← rdg_eq h hn] at q4
      refine ⟨by have z := congrArg Prod.snd l1; exact z, fun c a b => (l2 c a).trans (f1 c a b), fun k a b => ?_, q2, q3, 0, by omega, rfl, rfl, fun _ => q4⟩
      show (sp_X3_log (msr m1 1 v) 1 v (rdg (m1.1 1) v)).1 6 k = _
      rw [l2 6 (by omega)]
      exact f2 k a b
    · rw [if_neg d, reads_no h hn d, dX_no (by decide)]
      exact ⟨rfl, f1, f2, rfl, fun _ _ => rfl, 3, by omega, rfl, rfl, fun q => by omega⟩
  · rw [if_neg c] at es ⊢
    rw [ob_0 hc (by decide) (by rw [h5]; exact es)]
    exact ob_no (c := 2) (by omega) (by omega) rfl rfl
theorem ob_t {B v : Nat} {m1 y1 : Mu} (h : SimS B (m1.1 1) (y1.1 8)) (hc : m1.1 6 4 = 116) (h5 : m1.1 6 5 = nI v) (h13 : y1.1 13 0 = nI v) (h6 : m1.1 6 6 = y1.1 13 1) (hv : v < 2 ^ 31) : OB B m1 y1 (sp_X7_obey m1) (if 0 ≤ (y1.1 13 0) ∧ (y1.1 13 0) ≤ (y1.1 8 1) - 1 then dX (sp_X8_does y1 116) else (2, y1)) := by
  have ed : sp_X8_does y1 116 = sp_X8_baths y1 (nI v) (y1.1 13 1) := by
    unfold sp_X8_does
    rw [if_neg (by decide), if_neg (by decide), if_neg (by decide), if_pos rfl, h13]
  rw [ed, h13]
  have es := senI h (m1.1 6 5)
  rw [h5, nI_clamp hv] at es
  by_cases c : 0 ≤ nI v ∧ nI v ≤ y1.1 8 1 - 1
  · rw [if_pos c] at es ⊢
    obtain ⟨-, hn⟩ := sen_lt h c
    rw [nI_clamp hv] at hn
    have c7 := simS_c h
    rw [ob_n hc (by decide) (by rw [h5]; exact es), if_pos rfl]
    unfold sp_X7_obeyBath
    rw [h6]
    generalize y1.1 13 1 = b at *
    by_cases g : 2 ≤ rN (y1.1 8) (oN (y1.1 8) v) ∧ y1.1 8 (11 + 25 * (oN (y1.1 8) v) + 0) ≤ b ∧ b ≤ rL (y1.1 8) (oN (y1.1 8) v)
    · have hG := (simS_R h).1
      obtain ⟨-, o3⟩ := tabO h hn
      have hT := (hG.2.1 _ o3).1
      have lo := (hT.2 0 (by have := g.1; omega)).1
      have hi := (hT.2 (rN (y1.1 8) (oN (y1.1 8) v) - 1) (by have := g.1; omega)).2
      have hi' : (rL (y1.1 8) (oN (y1.1 8) v)).toInt ≤ 850000 := hi
      have g1 := Int32.le_iff_toInt_le.mp g.2.1
      have g2 := Int32.le_iff_toInt_le.mp g.2.2
      have cd : (-200000 : Int32) ≤ b ∧ b ≤ 850000 := ⟨Int32.le_iff_toInt_le.mpr (by rw [show (-200000 : Int32).toInt = -200000 by decide]; omega), Int32.le_iff_toInt_le.mpr (by rw [show (850000 : Int32).toInt = 850000 by decide]; omega)⟩
      have eb : sp_X8_baths y1 (nI v) b = (y1.1 8 (85 + 29 * v + 4), pM y1 8 (85 + 29 * v + 4) b) := by
        unfold sp_X8_baths
        rw [nI_clamp hv, if_pos c, if_pos cd]
        exact if_pos g
      rw [if_neg (fun q => (can0 h hn b).mp q g), eb, dX_ok (simS_B h (by omega) (by omega))]
      refine ⟨rfl, fun c a _ => row_n _ a, fun k _ _ => by show (pM m1 1 _ b).1 6 k = _; rw [row_n _ (by omega)], rfl, fun c a => row_n _ a, 0, by omega, rfl, rfl, fun _ => ?_⟩
      show SimS (B + 1) ((pM m1 1 (sF v 4) b).1 1) ((pM y1 8 (85 + 29 * v + 4) b).1 8)
      rw [row_s, row_s]
      exact simS_mono (simS_g h hn (by omega) (by omega) (by omega) rfl (nle_rg cd (by decide)) (by omega) (by omega) (rgs_4 g.2.1 g.2.2 (simS_R h))) (Nat.le_succ _)
    · rw [if_pos ((can0 h hn b).mpr g)]
      have eb : ∃ w : Int32, w ≤ -2000000001 ∧ sp_X8_baths y1 (nI v) b = (w, y1) := by
        unfold sp_X8_baths
        rw [nI_clamp hv, if_pos c]
        by_cases cd : (-200000 : Int32) ≤ b ∧ b ≤ 850000
        · rw [if_pos cd]
          exact ⟨-2000000002, by decide, if_neg g⟩
        · rw [if_neg cd]
          exact ⟨-2000000001, by decide, rfl⟩
      obtain ⟨w, hw, eb⟩ := eb
      rw [eb, dX_no hw]
      exact ob_no (c := 3) (by omega) (by omega) rfl rfl
  · rw [if_neg c] at es ⊢
    rw [ob_0 hc (by decide) (by rw [h5]; exact es)]
    exact ob_no (c := 2) (by omega) (by omega) rfl rfl
theorem ob_c {B v : Nat} {m1 y1 : Mu} {ch : Int32} (h : SimS B (m1.1 1) (y1.1 8)) (hch : ch = 98 ∨ ch = 109) (hc : m1.1 6 4 = ch) (h5 : m1.1 6 5 = nI v) (h13 : y1.1 13 0 = nI v) (h6 : m1.1 6 6 = y1.1 13 1) (hv : v < 2 ^ 31) : OB B m1 y1 (sp_X7_obey m1) (if (0 ≤ (y1.1 13 0) ∧ (y1.1 13 0) ≤ (y1.1 8 1) - 1) ∧ 0 ≤ (y1.1 13 1) ∧ (y1.1 13 1) ≤ (y1.1 8 (85 + 29 * (y1.1 13 0).toNatClampNeg + 1)) - 1 then dX (sp_X8_does y1 ch) else (2, y1)) := by
  have ed : sp_X8_does y1 ch = sp_X8_cuts y1 (nI v) (y1.1 13 1) (if ch = 98 then 1 else 0) := by
    unfold sp_X8_does
    rcases hch with rfl | rfl
    · rw [if_pos rfl, if_pos rfl, h13]
    · rw [if_neg (by decide), if_pos rfl, if_neg (by decide), h13]
  have n115 : ¬ ch = 115 := by rcases hch with rfl | rfl <;> decide
  have n116 : ¬ ch = 116 := by rcases hch with rfl | rfl <;> decide
  rw [ed, h13, nI_clamp hv]
  have es := senI h (m1.1 6 5)
  rw [h5, nI_clamp hv] at es
  by_cases c : 0 ≤ nI v ∧ nI v ≤ y1.1 8 1 - 1
  · rw [if_pos c] at es
    obtain ⟨-, hn⟩ := sen_lt h c
    rw [nI_clamp hv] at hn
    have c7 := simS_c h
    have eo : sp_X7_obey m1 = sp_X7_obeyCut m1 v := by
      rw [ob_n hc n115 (by rw [h5]; exact es), if_neg n116]
      rcases hch with rfl | rfl
      · rw [if_pos rfl]
      · rw [if_neg (by decide), if_pos rfl]
    rw [eo]
    unfold sp_X7_obeyCut
    rw [h6, hc, show m1.1 1 (sF v 1) = y1.1 8 (85 + 29 * v + 1) from (simS_N h hn).1 1 (by omega), show m1.1 1 (sF v 5) = y1.1 8 (85 + 29 * v + 12) from (simS_N h hn).2.1]
    have hW := ((simS_RI h).2.2.2 v (by omega)).2.2
    have h16 := (h.2.2.2.2.2.2.2.2.2.2 v (by omega)).2.1
    generalize y1.1 13 1 = b at *
    by_cases c1 : 0 ≤ b ∧ b < y1.1 8 (85 + 29 * v + 1)
    · have c1' := (ni_pr hW (by omega)).mp c1
      have cc : (0 ≤ nI v ∧ nI v ≤ y1.1 8 1 - 1) ∧ 0 ≤ b ∧ b ≤ y1.1 8 (85 + 29 * v + 1) - 1 := ⟨c, c1'⟩
      rw [if_pos c1, if_pos cc]
      obtain ⟨j, hj, rfl⟩ := ni_bl hW (by omega) c1
      have hj4 : j < 4 := by have := hW.2; omega
      obtain ⟨k, hk, ek⟩ : ∃ k, k < 16 ∧ y1.1 8 (85 + 29 * v + 12) = nI k := ⟨_, h16.2, h16.1⟩
      obtain ⟨t1, t2, t3, t4⟩ := cut_t k hk j hj4
      rw [ek]
      have no : ∀ w : Nat, w < 2 → nI k >>> (nI j &&& 31) &&& 1 = nI w → OB B m1 y1 (3, m1) (dX (sp_X8_cuts y1 (nI v) (nI j) (nI w))) := by
        intro w hw q
        have eb : sp_X8_cuts y1 (nI v) (nI j) (nI w) = (-2000000002, y1) := by
          unfold sp_X8_cuts
          rw [nI_clamp hv, if_pos cc, if_pos (show (0 : Int32) ≤ nI w ∧ nI w ≤ 1 from ⟨nI_pos' (by omega), by rw [show (1 : Int32) = nI 1 from rfl, nI_leI (by omega) (by omega)]; omega⟩), nI_clamp (by omega), nI_clamp (by omega), ek]
          exact if_pos q
        rw [eb, dX_no (by decide)]
        exact ob_no (c := 3) (by omega) (by omega) rfl rfl
      have ok : ∀ w : Nat, w < 2 → ¬ nI k >>> (nI j &&& 31) &&& 1 = nI w → OB B m1 y1 (0, sp_X3_turnWire m1 1 v (nI j)) (dX (sp_X8_cuts y1 (nI v) (nI j) (nI w))) := by
        intro w hw q
        have eb : sp_X8_cuts y1 (nI v) (nI j) (nI w) = (sp_X8_bits (nI k ^^^ ((1 : Int32) <<< (nI j &&& 31))), pM y1 8 (85 + 29 * v + 12) (nI k ^^^ ((1 : Int32) <<< (nI j &&& 31)))) := by
          unfold sp_X8_cuts
          rw [nI_clamp hv, if_pos cc, if_pos (show (0 : Int32) ≤ nI w ∧ nI w ≤ 1 from ⟨nI_pos' (by omega), by rw [show (1 : Int32) = nI 1 from rfl, nI_leI (by omega) (by omega)]; omega⟩), nI_clamp (by omega), nI_clamp (by omega), ek]
          exact if_neg q
        have et : sp_X3_turnWire m1 1 v (nI j) = pM m1 1 (sF v 5) (nI k ^^^ ((1 : Int32) <<< (nI j &&& 31))) := by
          unfold sp_X3_turnWire
          rw [show m1.1 1 (sF v 5) = y1.1 8 (85 + 29 * v + 12) from (simS_N h hn).2.1, ek]
        rw [eb, dX_ok t3, et]
        refine ⟨rfl, fun c a _ => row_n _ a, fun k _ _ => by show (pM m1 1 _ _).1 6 _ = _; rw [row_n _ (by omega)], rfl, fun c a => row_n _ a, 0, by omega, rfl, rfl, fun _ => ?_⟩
        show SimS (B + 1) ((pM m1 1 (sF v 5) _).1 1) ((pM y1 8 (85 + 29 * v + 12) _).1 8)
        rw [row_s, row_s]
        exact simS_mono (simS_g h hn (by omega) (by omega) (by omega) rfl (nle_bd (by have := t2.2; rw [t2.1, nI_toInt (by omega)]; omega)) (fun _ => t2) (by omega) (rgs_w (by omega) (by omega) (simS_R h))) (Nat.le_succ _)
      rcases hch with rfl | rfl
      · rw [if_pos rfl]
        simp only [if_pos (show (98 : Int32) = 98 from rfl)]
        rcases t4 with q | q
        · rw [if_neg (by rw [q]; decide)]
          exact ok 1 (by omega) (by rw [q]; decide)
        · rw [if_pos (by rw [q]; decide)]
          exact no 1 (by omega) q
      · rw [if_neg (show ¬ (109 : Int32) = 98 by decide)]
        simp only [if_neg (show ¬ (109 : Int32) = 98 by decide)]
        rcases t4 with q | q
        · rw [if_neg (by rw [q]; decide)]
          exact no 0 (by omega) q
        · rw [if_pos q]
          exact ok 0 (by omega) (by rw [q]; decide)
    · rw [if_neg c1, if_neg (fun q => c1 ((ni_pr hW (by omega)).mpr q.2))]
      exact ob_no (c := 2) (by omega) (by omega) rfl rfl
  · rw [if_neg c] at es
    rw [ob_0 hc n115 (by rw [h5]; exact es), if_neg (fun q => c q.1)]
    exact ob_no (c := 2) (by omega) (by omega) rfl rfl
/-- where an order begins -/
def ORd (B L p : Nat) (m y : Mu) : Prop := SimS B (m.1 1) (y.1 8) ∧ L ≤ 60 ∧ m.1 6 3 = nI L ∧ y.1 7 1 = nI L ∧ (∀ i, i < 60 → m.1 6 (8 + i) = y.1 12 i) ∧ y.1 7 2 = nI p ∧ p ≤ L
/-- what the class's orders leave -/
def FrO (m m' : Mu) : Prop := m'.2.2 = m.2.2 ∧ (∀ c, c ≠ 1 → c ≠ 6 → m'.1 c = m.1 c) ∧ ∀ k, (k = 0 ∨ k = 3 ∨ 8 ≤ k) → m'.1 6 k = m.1 6 k
/-- what the reference's orders leave -/
def FrZ (y y' : Mu) : Prop := y'.2 = y.2 ∧ (∀ c, c ≠ 7 → c ≠ 8 → c ≠ 13 → y'.1 c = y.1 c) ∧ ∀ k, k ≠ 2 → y'.1 7 k = y.1 7 k
theorem os_ok {B L p : Nat} {m y : Mu} (hB : B < 2 ^ 30) (h : ORd B L p m y) (hp : p < L) : (FrO m (sp_X6_parse m (nI p)).2 ∧ FrZ y (sp_X8_doesNext y).2) ∧ ((sp_X6_parse m (nI p)).1 = 0 ∧ (sp_X8_doesNext y).1 = 1 ∨ ¬ (sp_X6_parse m (nI p)).1 = 0 ∧ FrO m (sp_X7_obey (sp_X6_parse m (nI p)).2).2 ∧ ∃ c, c < 4 ∧ (sp_X7_obey (sp_X6_parse m (nI p)).2).1 = nI c ∧ (sp_X8_doesNext y).1 = nI c ∧ (c = 0 → ∃ p', p < p' ∧ p' ≤ L ∧ (sp_X7_obey (sp_X6_parse m (nI p)).2).2.1 6 7 = nI p' ∧ ORd (B + 1) L p' (sp_X7_obey (sp_X6_parse m (nI p)).2).2 (sp_X8_doesNext y).2)) := by
  obtain ⟨hS, hL, h3, h4, h5, h7, -⟩ := h
  have hpc : (y.1 7 2).toNatClampNeg = p := by rw [h7, nI_clamp (by omega)]
  obtain ⟨fD, fY, res⟩ := fm_ok hp hL h3 h4 h5 h7
  have hcc : sp_X6_characterAt (m.1 6) (nI p) = y.1 12 p := by
    unfold sp_X6_characterAt
    rw [if_neg (nI_pos (by omega)), h3, if_neg (by rw [nI_leI (by omega) (by omega)]; omega), if_neg (by rw [show (60 : Int32) = nI 60 from rfl, nI_leI (by omega) (by omega)]; omega), nI_clamp (by omega), h5 p (by omega)]
  have hset : ¬ (y.1 12 p = 115 ∨ y.1 12 p = 116 ∨ y.1 12 p = 114 ∨ y.1 12 p = 98 ∨ y.1 12 p = 109) → (sp_X6_parse m (nI p)).1 = 0 := fun q => by rw [par_o hcc q]
  have dn := dn_eq y (c := y.1 12 p) (rf := sp_X8_readsForm (pM y 7 2 (nI (p + 1))) (y.1 12 p)) (by rw [hpc]) (by rw [hpc])
  generalize sp_X6_parse m (nI p) = P at *
  generalize sp_X8_readsForm (pM y 7 2 (nI (p + 1))) (y.1 12 p) = R at *
  generalize y.1 12 p = c at *
  have fO : FrO m P.2 := ⟨congrArg Prod.snd fD.1, fun c _ h => fD.2.1 c h, fun k hk => fD.2.2 k (by omega)⟩
  have fZ : FrZ y R.2 := ⟨fY.1, fun c a _ d => fY.2.1 c a d, fY.2.2⟩
  have s1 : P.2.1 1 = m.1 1 := fD.2.1 1 (by omega)
  have s8 : R.2.1 8 = y.1 8 := fY.2.1 8 (by omega) (by omega)
  rcases res with ⟨e1, e2⟩ | ⟨p', hp', e1, e2, ps, ec, en, ex⟩
  · rw [dn, if_pos e2]
    exact ⟨⟨fO, fZ⟩, Or.inl ⟨e1, rfl⟩⟩
  · rw [if_neg (by rw [e2]; decide)] at dn
    have hS1 : SimS B (P.2.1 1) (R.2.1 8) := by rw [s1, s8]; exact hS
    have fin : ∀ d : Int32 × Mu, sp_X8_doesNext y = d → OB B P.2 R.2 (sp_X7_obey P.2) d → (FrO m P.2 ∧ FrZ y (sp_X8_doesNext y).2) ∧ (P.1 = 0 ∧ (sp_X8_doesNext y).1 = 1 ∨ ¬ P.1 = 0 ∧ FrO m (sp_X7_obey P.2).2 ∧ ∃ c, c < 4 ∧ (sp_X7_obey P.2).1 = nI c ∧ (sp_X8_doesNext y).1 = nI c ∧ (c = 0 → ∃ p', p < p' ∧ p' ≤ L ∧ (sp_X7_obey P.2).2.1 6 7 = nI p' ∧ ORd (B + 1) L p' (sp_X7_obey P.2).2 (sp_X8_doesNext y).2)) := by
      intro d ed ⟨o1, o2, o3, o4, o5, cc, o6, o7, o8, o9⟩
      rw [ed]
      refine ⟨⟨fO, o4.trans fZ.1, fun c a b e => (o5 c b).trans (fZ.2.1 c a b e), fun k hk => by rw [o5 7 (by omega)]; exact fZ.2.2 k hk⟩, Or.inr ⟨by rw [e1]; decide, ⟨o1.trans fO.1, fun c a b => (o2 c a b).trans (fO.2.1 c a b), fun k hk => (o3 k (by omega) (by omega)).trans (fO.2.2 k hk)⟩, cc, o6, o7, o8, fun z => ⟨p', hp', ps.1, (o3 7 (by omega) (by omega)).trans ps.2.2.2.2.2.1, o9 z, hL, (o3 3 (by omega) (by omega)).trans ps.2.2.1, by rw [o5 7 (by omega)]; exact ps.2.2.2.1, fun i hi => by rw [o3 _ (by omega) (by omega), o5 12 (by omega)]; exact ps.2.2.2.2.1 i hi, by rw [o5 7 (by omega)]; exact ps.2.2.2.2.2.2, ps.1⟩⟩⟩
    have hv : ∀ {v : Nat}, v < 1000000 → v < 2 ^ 31 := fun q => by omega
    by_cases k1 : c = 115
    · rw [if_pos k1, k1] at dn
      exact fin _ dn (ob_s hS1 hB (ec.trans k1))
    · rw [if_neg k1] at dn
      obtain ⟨v, v1, v2, v3⟩ := en k1
      by_cases k2 : c = 98
      · rw [if_pos k2] at dn
        exact fin _ dn (ob_c hS1 (Or.inl k2) ec v2 v3 (ex k1 (by rw [k2]; decide)) (hv v1))
      · rw [if_neg k2] at dn
        by_cases k3 : c = 109
        · rw [if_pos k3] at dn
          exact fin _ dn (ob_c hS1 (Or.inr k3) ec v2 v3 (ex k1 (by rw [k3]; decide)) (hv v1))
        · rw [if_neg k3] at dn
          by_cases k4 : c = 114
          · rw [k4] at dn
            exact fin _ dn (ob_r hS1 hB (ec.trans k4) v2 v3 (hv v1))
          · by_cases k5 : c = 116
            · rw [k5] at dn
              exact fin _ dn (ob_t hS1 (ec.trans k5) v2 v3 (ex k1 k4) (hv v1))
            · exact absurd (hset (fun q => q.elim k1 (fun q => q.elim k5 (fun q => q.elim k4 (fun q => q.elim k2 k3))))) (by rw [e1]; decide)
