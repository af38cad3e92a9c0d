/-! ===== scanning; undo, type, clearText ===== -/
def np (g : Nat → Int32) : Nat → Nat → Int32
  | 0, _ => -1
  | f + 1, k => if sp_X4_sensorIn g ((g 2 + nI k) - (g 2 + nI k) / 12 * 12) = -1 then np g f (k + 1) else sp_X4_sensorIn g ((g 2 + nI k) - (g 2 + nI k) / 12 * 12)
theorem np_def (g : Nat → Int32) : sp_X4_nextPlugged g = np g 12 1 := by
  unfold sp_X4_nextPlugged
  rfl
theorem in_so {B : Nat} {g s : Nat → Int32} (h : SimS B g s) {q : Nat} (hq : q < 12) : ∀ f k, k + f = 7 → k ≤ cS s → ¬ lp_X4_sensorIn_2 g (nI q) f k = -1 → ∃ n, n < cS s ∧ lp_X4_sensorIn_2 g (nI q) f k = nI n ∧ g (sF n 6) = nI q := by
  have c := simS_c h
  have h1 : g 1 = nI (cS s) := h.1.2.1.trans (simS_RI h).2.1.1
  intro f
  induction f with
  | zero =>
    intro k hk hkc hn
    exact absurd hkc (by omega)
  | succ f ih =>
    intro k hk hkc hn
    unfold lp_X4_sensorIn_2 at hn ⊢
    rw [h1] at hn ⊢
    by_cases d : nI (cS s) ≤ nI k
    · rw [if_pos d] at hn; exact absurd rfl hn
    · rw [if_neg d] at hn ⊢
      rw [nI_leI (by omega) (by omega)] at d
      have d6 : ¬ (6 : Int32) ≤ nI k := by rw [show (6 : Int32) = nI 6 from rfl, nI_leI (by omega) (by omega)]; omega
      rw [if_neg d6] at hn ⊢
      by_cases e : g (sF k 6) = nI q
      · rw [if_pos e]; exact ⟨k, by omega, rfl, e⟩
      · rw [if_neg e] at hn ⊢
        exact ih (k + 1) (by omega) (by omega) hn
theorem pq_c {B : Nat} {g s : Nat → Int32} (h : SimS B g s) : ∃ p, p < 12 ∧ (∀ k, 1 ≤ k → k ≤ 12 → (g 2 + nI k) - (g 2 + nI k) / 12 * 12 = nI ((p + k) % 12)) ∧ ((s 9 = -1 ∧ p = 11) ∨ (¬ s 9 = -1 ∧ (3 * (s 9 / 10)) + (s 9 - s 9 / 10 * 10) = nI p)) := by
  rcases h.2.1 with ⟨e1, e2⟩ | ⟨p, hp, e1, e2⟩
  · refine ⟨11, by omega, fun k h1 h2 => ?_, Or.inl ⟨e2, rfl⟩⟩
    have e : g 2 + nI k = nI (k - 1) := by
      obtain ⟨k', rfl⟩ : ∃ k', k = k' + 1 := ⟨k - 1, by omega⟩
      rw [e1, Int32.add_comm, pk_m1]
      rfl
    rw [e, show (12 : Int32) = nI 12 from rfl, pk_rem (by omega) (by omega) (by omega)]
    congr 1
    omega
  · refine ⟨p, hp, fun k h1 h2 => ?_, Or.inr ?_⟩
    · rw [e1, nI_add, show (12 : Int32) = nI 12 from rfl, pk_rem (by omega) (by omega) (by omega)]
    · rw [e2]
      have key : ∀ p, p < 12 → ¬ nI (10 * (p / 3) + p % 3) = -1 ∧ (3 * (nI (10 * (p / 3) + p % 3) / 10)) + (nI (10 * (p / 3) + p % 3) - nI (10 * (p / 3) + p % 3) / 10 * 10) = nI p := by decide +kernel
      exact key p hp
theorem sc_lp {B : Nat} {g : Nat → Int32} {x : Mu} (h : SimS B g (x.1 8)) {p : Nat} (hp : p < 12) (hP : ∀ k, 1 ≤ k → k ≤ 12 → (g 2 + nI k) - (g 2 + nI k) / 12 * 12 = nI ((p + k) % 12)) : ∀ f k, k + f = 13 → 1 ≤ k → (np g f k = -1 ∧ lp_X8_scans_42 x (f + 1) (nI p) k = (-2000000002, x)) ∨ ∃ n q, n < cS (x.1 8) ∧ q < 12 ∧ np g f k = nI n ∧ g (sF n 6) = nI q ∧ lp_X8_scans_42 x (f + 1) (nI p) k = (if (sp_X8_reads (pM x 8 9 (nI (10 * (q / 3) + q % 3))) (nI n)).1 ≤ -2000000001 then (-1 - nI n, (sp_X8_reads (pM x 8 9 (nI (10 * (q / 3) + q % 3))) (nI n)).2) else (nI n, (sp_X8_reads (pM x 8 9 (nI (10 * (q / 3) + q % 3))) (nI n)).2)) := by
  intro f
  induction f with
  | zero =>
    intro k hk h1
    left
    refine ⟨rfl, ?_⟩
    unfold lp_X8_scans_42
    rw [if_pos (by rw [show (12 : Int32) = nI 12 from rfl, nI_ltI (by omega) (by omega)]; omega)]
  | succ f ih =>
    intro k hk h1
    have eq1 := hP k h1 (by omega)
    have hq : (p + k) % 12 < 12 := Nat.mod_lt _ (by omega)
    have eI : sp_X4_sensorIn g (nI ((p + k) % 12)) = sp_X8_inside (x.1 8) (nI (10 * (((p + k) % 12) / 3) + ((p + k) % 12) % 3)) := in_lp h.1.2.1 (simS_RI h).2.1 h.2.2.2.1 hq 7 0 (by omega)
    have er : (nI p + nI k) - (nI p + nI k) / 12 * 12 = nI ((p + k) % 12) := by
      rw [nI_add, show (12 : Int32) = nI 12 from rfl, pk_rem (by omega) (by omega) (by omega)]
    have ee : ((10 * (nI ((p + k) % 12) / 3)) + (nI ((p + k) % 12) - nI ((p + k) % 12) / 3 * 3)) = nI (10 * (((p + k) % 12) / 3) + ((p + k) % 12) % 3) := by
      rw [show (3 : Int32) = nI 3 from rfl, pk_rem (by omega) (by omega) (by omega), pk_div (by omega) (by omega) (by omega), show (10 : Int32) = nI 10 from rfl, pk_mul, nI_add]
    have ls : lp_X8_scans_42 x (f + 1 + 1) (nI p) k = if sp_X8_inside (x.1 8) (nI (10 * (((p + k) % 12) / 3) + ((p + k) % 12) % 3)) = -1 then lp_X8_scans_42 x (f + 1) (nI p) (k + 1) else (if (sp_X8_reads (pM x 8 9 (nI (10 * (((p + k) % 12) / 3) + ((p + k) % 12) % 3))) (sp_X8_inside (x.1 8) (nI (10 * (((p + k) % 12) / 3) + ((p + k) % 12) % 3)))).1 ≤ -2000000001 then (-1 - (sp_X8_inside (x.1 8) (nI (10 * (((p + k) % 12) / 3) + ((p + k) % 12) % 3))), (sp_X8_reads (pM x 8 9 (nI (10 * (((p + k) % 12) / 3) + ((p + k) % 12) % 3))) (sp_X8_inside (x.1 8) (nI (10 * (((p + k) % 12) / 3) + ((p + k) % 12) % 3)))).2) else (sp_X8_inside (x.1 8) (nI (10 * (((p + k) % 12) / 3) + ((p + k) % 12) % 3)), (sp_X8_reads (pM x 8 9 (nI (10 * (((p + k) % 12) / 3) + ((p + k) % 12) % 3))) (sp_X8_inside (x.1 8) (nI (10 * (((p + k) % 12) / 3) + ((p + k) % 12) % 3)))).2)) := by
      conv => lhs; unfold lp_X8_scans_42
      rw [if_neg (by rw [show (12 : Int32) = nI 12 from rfl, nI_ltI (by omega) (by omega)]; omega), er, ee]
    have ln : np g (f + 1) k = if sp_X8_inside (x.1 8) (nI (10 * (((p + k) % 12) / 3) + ((p + k) % 12) % 3)) = -1 then np g f (k + 1) else sp_X8_inside (x.1 8) (nI (10 * (((p + k) % 12) / 3) + ((p + k) % 12) % 3)) := by
      conv => lhs; unfold np
      rw [eq1, eI]
    rw [ls, ln]
    by_cases z : sp_X8_inside (x.1 8) (nI (10 * (((p + k) % 12) / 3) + ((p + k) % 12) % 3)) = -1
    · rw [if_pos z, if_pos z]
      exact ih (k + 1) (by omega) (by omega)
    · rw [if_neg z, if_neg z]
      right
      obtain ⟨n, n1, n2, n3⟩ := in_so h hq 7 0 (by omega) (Nat.zero_le _) (fun e => z (by rw [← eI]; exact e))
      have n2' : sp_X8_inside (x.1 8) (nI (10 * (((p + k) % 12) / 3) + ((p + k) % 12) % 3)) = nI n := by rw [← eI]; exact n2
      exact ⟨n, (p + k) % 12, n1, hq, n2', n3, by rw [n2']⟩
theorem scn_eq {B : Nat} {g : Nat → Int32} {x : Mu} (h : SimS B g (x.1 8)) : (sp_X4_nextPlugged g = -1 ∧ sp_X8_scans x = (-2000000002, x)) ∨ ∃ n q, n < cS (x.1 8) ∧ q < 12 ∧ sp_X4_nextPlugged g = nI n ∧ g (sF n 6) = nI q ∧ sp_X8_scans x = (if (sp_X8_reads (pM x 8 9 (nI (10 * (q / 3) + q % 3))) (nI n)).1 ≤ -2000000001 then (-1 - nI n, (sp_X8_reads (pM x 8 9 (nI (10 * (q / 3) + q % 3))) (nI n)).2) else (nI n, (sp_X8_reads (pM x 8 9 (nI (10 * (q / 3) + q % 3))) (nI n)).2)) := by
  obtain ⟨p, hp, hP, hv⟩ := pq_c h
  have es : sp_X8_scans x = lp_X8_scans_42 x 13 (nI p) 1 := by
    unfold sp_X8_scans
    rcases hv with ⟨e1, rfl⟩ | ⟨e1, e2⟩
    · rw [if_pos e1]; rfl
    · rw [if_neg e1, e2]
  rw [np_def, es]
  exact sc_lp h hp hP 12 1 (by omega) (by omega)
/-- the sensor that is met, then read or not -/
theorem sc_sim {B j n q : Nat} {m x : Mu} (h : SimS B (m.1 j) (x.1 8)) (hB : B < 2 ^ 30) (hj : j < 6) (hn : n < cS (x.1 8)) (hq : q < 12) (hg : m.1 j (sF n 6) = nI q) : (dgn ((pM m j 2 (m.1 j (sF n 6))).1 j) n = 0 ∧ ∃ y, sp_X8_reads (pM x 8 9 (nI (10 * (q / 3) + q % 3))) (nI n) = (sp_X8_degrees (ur (x.1 8) 9 (nI (10 * (q / 3) + q % 3))) n, y) ∧ ¬ sp_X8_degrees (ur (x.1 8) 9 (nI (10 * (q / 3) + q % 3))) n ≤ -2000000001 ∧ y.2 = x.2 ∧ (∀ c, c ≠ 8 → y.1 c = x.1 c) ∧ (sp_X3_log (msr (pM m j 2 (m.1 j (sF n 6))) j n) j n (rdg ((pM m j 2 (m.1 j (sF n 6))).1 j) n)).2.2 = m.2.2 ∧ (∀ c, c ≠ j → c ≠ 6 → (sp_X3_log (msr (pM m j 2 (m.1 j (sF n 6))) j n) j n (rdg ((pM m j 2 (m.1 j (sF n 6))).1 j) n)).1 c = m.1 c) ∧ (∀ k, k ≠ 1 → k ≠ 2 → (sp_X3_log (msr (pM m j 2 (m.1 j (sF n 6))) j n) j n (rdg ((pM m j 2 (m.1 j (sF n 6))).1 j) n)).1 6 k = m.1 6 k) ∧ SimS (B + 1) ((sp_X3_log (msr (pM m j 2 (m.1 j (sF n 6))) j n) j n (rdg ((pM m j 2 (m.1 j (sF n 6))).1 j) n)).1 j) (y.1 8)) ∨ (¬ dgn ((pM m j 2 (m.1 j (sF n 6))).1 j) n = 0 ∧ sp_X8_reads (pM x 8 9 (nI (10 * (q / 3) + q % 3))) (nI n) = (-2000000002, pM x 8 9 (nI (10 * (q / 3) + q % 3))) ∧ (msr (pM m j 2 (m.1 j (sF n 6))) j n).2.2 = m.2.2 ∧ (∀ c, c ≠ j → c ≠ 6 → (msr (pM m j 2 (m.1 j (sF n 6))) j n).1 c = m.1 c) ∧ (∀ k, k ≠ 1 → k ≠ 2 → (msr (pM m j 2 (m.1 j (sF n 6))) j n).1 6 k = m.1 6 k) ∧ SimS B ((msr (pM m j 2 (m.1 j (sF n 6))) j n).1 j) ((pM x 8 9 (nI (10 * (q / 3) + q % 3))).1 8)) := by
  rw [hg]
  have hS1 : SimS B ((pM m j 2 (nI q)).1 j) ((pM x 8 9 (nI (10 * (q / 3) + q % 3))).1 8) := by
    rw [row_s, row_s]
    exact simS_s h (Or.inr ⟨q, hq, rfl, rfl⟩)
  have hn1 : n < cS ((pM x 8 9 (nI (10 * (q / 3) + q % 3))).1 8) := by
    show n < ((pM x 8 9 _).1 8 1).toNatClampNeg
    rw [row_k _ (by omega)]; exact hn
  have ed := dgn_eq hS1 hn1
  have eM : (msr (pM m j 2 (nI q)) j n).1 j = (pM m j 2 (nI q)).1 j := ms_M _ _ (by omega)
  have f1 : ∀ c, c ≠ j → c ≠ 6 → (msr (pM m j 2 (nI q)) j n).1 c = m.1 c := fun c h1 h2 => (ms_M _ _ h2).trans (row_n _ h1)
  have f2 : ∀ k, k ≠ 1 → k ≠ 2 → (msr (pM m j 2 (nI q)) j n).1 6 k = m.1 6 k := fun k h1 h2 => (ms_6 _ _ _ h1 h2).trans (by rw [row_n _ (by omega)])
  by_cases d : sp_X8_diagnosed ((pM x 8 9 (nI (10 * (q / 3) + q % 3))).1 8) n = 0
  · left
    refine ⟨ed.trans d, ?_⟩
    have c7 := simS_c hS1
    have hA : ni 2 ((msr (pM m j 2 (nI q)) j n).1 j (sF n 10)) := by
      rw [eM, show (pM m j 2 (nI q)).1 j (sF n 10) = (pM x 8 9 (nI (10 * (q / 3) + q % 3))).1 8 (85 + 29 * n + 17) from (simS_N hS1 hn1).2.2.2.1 3 (by omega)]
      exact (hS1.2.2.2.2.2.2.2.2.2.2 n (by omega)).2.2
    obtain ⟨y, y1, y2, y3, y4⟩ := rd_sim (B := B) (j := j) (n := n) (m := msr (pM m j 2 (nI q)) j n) (x := pM x 8 9 (nI (10 * (q / 3) + q % 3))) (by rw [eM]; exact hS1) hB hn1 d
    obtain ⟨l1, l2, -⟩ := lg_row (msr (pM m j 2 (nI q)) j n) j n (rdg ((pM m j 2 (nI q)).1 j) n) hA
    have ok := dg_ok hS1 hn1 d
    rw [← rdg_eq hS1 hn1] at y1 y4 ok
    have er : rdg ((pM m j 2 (nI q)).1 j) n = sp_X8_degrees (ur (x.1 8) 9 (nI (10 * (q / 3) + q % 3))) n := by rw [rdg_eq hS1 hn1, row_s]
    refine ⟨y, by rw [← er]; exact y1, by rw [← er]; exact ok, y2, fun c hc => (y3 c hc).trans (row_n _ hc), (by have z := congrArg Prod.snd l1; exact z), fun c h1 h2 => (l2 c h1).trans (f1 c h1 h2), fun k h1 h2 => ?_, y4⟩
    rw [l2 6 (by omega)]
    exact f2 k h1 h2
  · right
    refine ⟨fun e => d (ed.symm.trans e), reads_no (B := B) (g := (pM m j 2 (nI q)).1 j) hS1 hn1 d, rfl, f1, f2, ?_⟩
    rw [eM]
    exact hS1
theorem st_scan {B : Nat} {μ : Mu} (h : Inv B μ) (hB : B < 2 ^ 30) : Stq (B + 1) (sp_X7_scan μ) (fun m => sp_X8_scan m) := by
  have hS := h.1
  have k8 : ∀ x : Mu, (pC x 11 0 8 0 259).1 8 = x.1 8 := fun x => pC_row (by omega)
  unfold sp_X7_scan
  have r0 := rec_0 h
  -- the reference keeps first: its row 8 is the same
  have go : ∀ a : Mu, a.1 8 = μ.1 8 → (sp_X4_nextPlugged (μ.1 0) = -1 ∧ sp_X8_scans (pC a 11 0 8 0 259) = (-2000000002, pC a 11 0 8 0 259)) ∨ ∃ n q, n < cS (μ.1 8) ∧ q < 12 ∧ sp_X4_nextPlugged (μ.1 0) = nI n ∧ μ.1 0 (sF n 6) = nI q ∧ sp_X8_scans (pC a 11 0 8 0 259) = (if (sp_X8_reads (pM (pC a 11 0 8 0 259) 8 9 (nI (10 * (q / 3) + q % 3))) (nI n)).1 ≤ -2000000001 then (-1 - nI n, (sp_X8_reads (pM (pC a 11 0 8 0 259) 8 9 (nI (10 * (q / 3) + q % 3))) (nI n)).2) else (nI n, (sp_X8_reads (pM (pC a 11 0 8 0 259) 8 9 (nI (10 * (q / 3) + q % 3))) (nI n)).2)) := by
    intro a ea
    have := scn_eq (x := pC a 11 0 8 0 259) (g := μ.1 0) (B := B) (by rw [k8, ea]; exact hS)
    rw [k8, ea] at this
    exact this
  rcases go μ rfl with ⟨e1, e2⟩ | ⟨n, q, hn, hq, e1, e2, -⟩
  · rw [e1, senI hS, if_neg (fun z => absurd z.1 (by decide))]
    show Stq (B + 1) (-2000000002, μ) _
    show (-2000000002 : Int32) = (sp_X8_scan μ).1 ∧ Inv (B + 1) (sp_X8_scan μ).2
    have er : sp_X8_scan μ = (-2000000002, pC μ 11 0 8 0 259) := by
      unfold sp_X8_scan
      rw [e2]; dsimp only; rw [acted_no (by decide)]
    rw [er]
    exact ⟨rfl, inv_kp h (Nat.le_succ _)⟩
  · have c7 := simS_c hS
    rw [e1, senI hS, if_pos (reads_0 (B := B) (g := μ.1 0) hS hn), nI_clamp (by omega)]
    show Stq (B + 1) (if dgn ((pM (sp_X0_record μ) 0 2 ((sp_X0_record μ).1 0 (sF n 6))).1 0) n = 0 then _ else _) _
    have main : ∀ (a y : Mu) (w : Int32), sp_X8_scans (pC a 11 0 8 0 259) = (w, y) → a.2.2 = (sp_X0_record μ).2.2 → (∀ c, c ≠ 0 → c ≠ 6 → a.1 c = (sp_X0_record μ).1 c) → (∀ k, k ≠ 1 → k ≠ 2 → a.1 6 k = (sp_X0_record μ).1 6 k) → y.2 = (pC a 11 0 8 0 259).2 → (∀ c, c ≠ 8 → y.1 c = (pC a 11 0 8 0 259).1 c) → ¬ w ≤ -2000000001 → SimS (B + 1) (a.1 0) (y.1 8) → Stq (B + 1) (w, a) (fun m => sp_X8_scan m) := by
      intro a y w q1 q2 q3 q4 q5 q6 q7 q8
      have e7 : ∀ c, 7 ≤ c → a.1 c = μ.1 c := fun c hc => (q3 c (by omega) (by omega)).trans (rec_7 h hc)
      have y7 : ∀ c, c ≠ 8 → c ≠ 11 → y.1 c = a.1 c := fun c h1 h2 => (q6 c h1).trans (pC_row h2)
      obtain ⟨z1, z2⟩ := inv_ch (a := a) (m := y) (w := w) h (Nat.le_succ B) q2 (fun j h1 h2 z _ => by rw [q3 j (by omega) (by omega)]) (q4 0 (by omega) (by omega)) ((q4 3 (by omega) (by omega)).trans (rec_6 h (by omega))) (fun z _ => (q4 _ (by omega) (by omega)).trans (rec_6 h (by omega))) (by rw [q5]; rfl) (fun c hc => y7 c (by omega) (by omega)) (by rw [y7 7 (by omega) (by omega), e7 7 (by omega)]) (by rw [y7 7 (by omega) (by omega), e7 7 (by omega)]) (by rw [y7 9 (by omega) (by omega), e7 9 (by omega)]) (by rw [y7 12 (by omega) (by omega), e7 12 (by omega)]) (fun z hz => by rw [q6 11 (by omega), kp_11 _ hz, e7 8 (by omega)]) q7 q8
      have es : sp_X8_scan a = sp_X8_acted y w := by
        unfold sp_X8_scan
        rw [q1]
      show w = (sp_X8_scan a).1 ∧ Inv (B + 1) (sp_X8_scan a).2
      rw [es]
      exact ⟨z1.symm, z2⟩
    have kx : ∀ a : Mu, (∀ c, c ≠ 0 → c ≠ 6 → a.1 c = (sp_X0_record μ).1 c) → a.1 8 = μ.1 8 := fun a ha => (ha 8 (by omega) (by omega)).trans (rec_7 h (by omega))
    have hno : ¬ -1 - nI n ≤ -2000000001 := by
      have : ∀ n, n < 7 → ¬ -1 - nI n ≤ -2000000001 := by decide +kernel
      exact this n (by omega)
    have hyes : ¬ nI n ≤ -2000000001 := nle_bd (by rw [nI_toInt (by omega)]; omega)
    -- two runs of the same sensor: by the class's row 0, by the reference's row behind the class
    have hx : ∀ a : Mu, a.1 8 = μ.1 8 → _ := fun a ea => sc_sim (B := B) (j := 0) (n := n) (q := q) (m := sp_X0_record μ) (x := pC a 11 0 8 0 259) (by rw [k8, ea, r0]; exact hS) hB (by omega) (by rw [k8, ea]; exact hn) hq (by rw [r0]; exact e2)
    have sc : ∀ a : Mu, a.1 8 = μ.1 8 → sp_X8_scans (pC a 11 0 8 0 259) = (if (sp_X8_reads (pM (pC a 11 0 8 0 259) 8 9 (nI (10 * (q / 3) + q % 3))) (nI n)).1 ≤ -2000000001 then (-1 - nI n, (sp_X8_reads (pM (pC a 11 0 8 0 259) 8 9 (nI (10 * (q / 3) + q % 3))) (nI n)).2) else (nI n, (sp_X8_reads (pM (pC a 11 0 8 0 259) 8 9 (nI (10 * (q / 3) + q % 3))) (nI n)).2)) := by
      intro a ea
      rcases go a ea with ⟨f1, f2⟩ | ⟨n', q', g1, g2, g3, g4, g5⟩
      · exfalso
        rw [e1] at f1
        have := congrArg Int32.toInt f1
        rw [nI_toInt (by omega), show (-1 : Int32).toInt = -1 by decide] at this
        omega
      · have en : n' = n := nI_ij (by omega) (by omega) (g3.symm.trans e1)
        subst en
        have eq : q' = q := nI_ij (by omega) (by omega) (g4.symm.trans e2)
        subst eq
        exact g5
    rcases hx μ rfl with ⟨d, -, -, -, -, -, t1, t2, t3, -⟩ | ⟨d, -, t1, t2, t3, -⟩
    · rw [if_pos d]
      rcases hx _ (kx _ t2) with ⟨-, y, y1, y2, y3, y4, -, -, -, y5⟩ | ⟨d', -⟩
      · refine main _ y (nI n) ?_ t1 t2 t3 y3 y4 hyes y5
        rw [sc _ (kx _ t2), y1, if_neg y2]
      · exact absurd d d'
    · rw [if_neg d]
      rcases hx _ (kx _ t2) with ⟨d', -⟩ | ⟨-, y1, -, -, -, y5⟩
      · exact absurd d' d
      · refine main _ (pM (pC (msr (pM (sp_X0_record μ) 0 2 ((sp_X0_record μ).1 0 (sF n 6))) 0 n) 11 0 8 0 259) 8 9 (nI (10 * (q / 3) + q % 3))) (-1 - nI n) ?_ t1 t2 t3 rfl (fun c hc => row_n _ hc) hno (simS_mono y5 (Nat.le_succ _))
        rw [sc _ (kx _ t2), y1, if_pos (show (-2000000002 : Int32) ≤ -2000000001 by decide)]
theorem st_undo {B : Nat} {μ : Mu} (h : Inv B μ) : Stq B (sp_X7_undo μ) (fun m => sp_X8_undo m) := by
  have h' := h
  obtain ⟨p, ⟨st, hst, b1, b2, b3, b4, b5⟩, c⟩ := h
  unfold sp_X7_undo
  by_cases z : st = 0
  · subst z
    rw [b1, if_pos (show nI 0 = 0 from rfl)]
    exact stq_rd h' (undo_no μ b2)
  · obtain ⟨st, rfl⟩ : ∃ k, st = k + 1 := ⟨st - 1, by omega⟩
    rw [b1, if_neg (show ¬ nI (st + 1) = 0 from nI_ne0 (by omega) (by omega))]
    have eR : sp_X0_restore μ = sp_X4_copy (pM μ 6 0 (nI st)) 0 (μ.2.2 st) := by
      unfold sp_X0_restore
      rw [b1, if_neg (nI_nle (by omega) (by omega)), if_neg (by rw [show (4 : Int32) = nI 4 from rfl, nI_ltI (by omega) (by omega)]; omega), nI_pred, nI_clamp (by omega)]
    rw [eR]
    have hk := b3 st (by omega)
    have cp := cp_X4 (pM μ 6 0 (nI st)) (j := 0) (j2 := μ.2.2 st) (by omega)
    generalize sp_X4_copy (pM μ 6 0 (nI st)) 0 (μ.2.2 st) = a at *
    have a7 : ∀ c, c ≠ 0 → c ≠ 6 → a.1 c = μ.1 c := fun c h0 h6 => (cp.2.1 c h0).trans (row_n _ h6)
    have a60 : a.1 6 0 = nI st := by rw [cp.2.1 6 (by omega)]; exact row_at _
    have a6 : ∀ k, k ≠ 0 → a.1 6 k = μ.1 6 k := fun k hk => by rw [cp.2.1 6 (by omega)]; exact row_k _ hk
    obtain ⟨m', e, q1, q2, q3, q4, q5⟩ := undo_ok a (st := st) (by rw [a7 7 (by omega) (by omega)]; exact b2) (by omega)
    have aK : a.2.2 = μ.2.2 := congrArg Prod.snd cp.1
    unfold Stq
    show a.1 6 0 = (sp_X8_undo a).1 ∧ Inv B (sp_X8_undo a).2
    rw [e, a60]
    have mK : m'.2.2 = μ.2.2 := by rw [q1]; exact aK
    refine ⟨rfl, ?_, ⟨st, by omega, ?_, q4, by rw [mK]; exact b3, by rw [mK]; exact b4, fun k hk' => ?_⟩, ?_⟩
    · refine simS_eq (b5 st (by omega)) (fun y hy => ?_) (fun y hy => ?_)
      · show m'.1 0 y = _
        rw [q2 0 (by omega) (by omega), cp.2.2.1 y hy, row_n _ (by omega)]
      · show m'.1 8 y = μ.1 9 (259 * st + y)
        rw [q5 y hy, a7 9 (by omega) (by omega)]
    · show m'.1 6 0 = _
      rw [q2 6 (by omega) (by omega)]; exact a60
    · have hk2 := b3 k (by omega)
      refine simS_eq (b5 k (by omega)) (fun y hy => ?_) (fun y hy => ?_)
      · show m'.1 (m'.2.2 k) y = _
        rw [mK, q2 _ (by omega) (by omega), a7 _ (by omega) (by omega)]
      · show m'.1 9 _ = _
        rw [q2 9 (by omega) (by omega), a7 9 (by omega) (by omega)]
    · refine txR_eq c ?_ (fun y hy => ?_) ?_ (fun y hy => ?_)
      · show m'.1 6 3 = _
        rw [q2 6 (by omega) (by omega), a6 3 (by omega)]
      · show m'.1 6 _ = _
        rw [q2 6 (by omega) (by omega), a6 _ (by omega)]
      · show m'.1 7 1 = _
        rw [q3 1 (by omega), a7 7 (by omega) (by omega)]
      · show m'.1 12 y = _
        rw [q2 12 (by omega) (by omega), a7 12 (by omega) (by omega)]
/-- the text alone changes -/
theorem inv_tx {B : Nat} {μ μ' : Mu} (h : Inv B μ) (hK : μ'.2.2 = μ.2.2) (hj : ∀ c, c ≠ 6 → c ≠ 7 → c ≠ 12 → μ'.1 c = μ.1 c) (h60 : μ'.1 6 0 = μ.1 6 0) (h70 : μ'.1 7 0 = μ.1 7 0) (ht : TxR μ') : Inv B μ' := by
  obtain ⟨a, ⟨st, hst, b1, b2, b3, b4, b5⟩, c⟩ := h
  refine ⟨by rw [hj 0 (by omega) (by omega) (by omega), hj 8 (by omega) (by omega) (by omega)]; exact a, ⟨st, hst, h60.trans b1, h70.trans b2, by rw [hK]; exact b3, by rw [hK]; exact b4, fun k hk => ?_⟩, ht⟩
  have := b3 k (by omega)
  rw [hK, hj _ (by omega) (by omega) (by omega), hj 9 (by omega) (by omega) (by omega)]
  exact b5 k hk
theorem st_clearText {B : Nat} {μ : Mu} (h : Inv B μ) : Stq B (sp_X7_clearText μ) (fun m => sp_X8_clearText m) := by
  obtain ⟨⟨L, hL, t1, t2⟩, t3, t4⟩ := h.2.2
  unfold sp_X7_clearText
  refine ⟨?_, ?_⟩
  · show μ.1 6 3 = (pM μ 6 3 0).1 7 1
    rw [row_n _ (by omega), t1, t2]
  · show Inv B (pM (pM μ 6 3 0) 7 1 0)
    refine inv_tx h rfl (fun c h6 h7 _ => by rw [row_n _ h7, row_n _ h6]) (by rw [row_n _ (by omega), row_k _ (by omega)]) (by rw [row_k _ (by omega), row_n _ (by omega)]) ⟨⟨0, by omega, by rw [row_n _ (by omega)]; exact row_at _, row_at _⟩, fun y hy => ?_, fun y hy => ?_⟩
    · rw [row_n _ (by omega), row_k _ (by omega), row_n _ (by omega), row_n _ (by omega)]; exact t3 y hy
    · rw [row_n _ (by omega), row_k _ (by omega)]; exact t4 y hy
theorem st_type {B : Nat} {μ : Mu} (h : Inv B μ) (a : Int32) : Stq B (sp_X7_type μ a) (fun m => sp_X8_type m a) := by
  obtain ⟨⟨L, hL, t1, t2⟩, t3, t4⟩ := h.2.2
  unfold sp_X7_type
  have i1 : (32 : Int64) ≤ a.toInt64 ∧ a.toInt64 ≤ (126 : Int64) ↔ (32 : Int32) ≤ a ∧ a ≤ 126 := i2g (by decide) (by decide)
  by_cases c : (32 : Int32) ≤ a ∧ a ≤ 126
  · rw [if_pos (i1.mpr c), t1]
    by_cases c1 : L < 60
    · rw [if_pos (by rw [show (60 : Int32) = nI 60 from rfl, nI_ltI (by omega) (by omega)]; exact c1)]
      obtain ⟨k, hk, ek⟩ : ∃ k, k < 127 ∧ a = nI k := by
        obtain ⟨a1, -, a3⟩ := na_rng 32 126 rfl rfl (by omega) (by omega) c
        exact ⟨_, a3, a1⟩
      have ev : (a.toUInt32 % 65536).toInt32 = nI k := by
        have key : ∀ k, k < 127 → ((nI k).toUInt32 % 65536).toInt32 = nI k := by decide +kernel
        rw [ek]; exact key k hk
      rw [ev]
      have ea : sp_X6_append μ (nI k) = pM (pM μ 6 (8 + L) (nI k)) 6 3 (nI (L + 1)) := by
        unfold sp_X6_append
        rw [row_k _ (show 3 ≠ 8 + (μ.1 6 3).toNatClampNeg by omega), t1, nI_clamp (by omega), if_neg (nI_pos (by omega)), if_neg (by rw [show (60 : Int32) = nI 60 from rfl, nI_leI (by omega) (by omega)]; omega), nI_1]
      rw [ea, row_at]
      have e71 : (pM (pM μ 6 (8 + L) (nI k)) 6 3 (nI (L + 1))).1 7 1 = nI L := by rw [row_n _ (by omega), row_n _ (by omega), t2]
      have er : sp_X8_type (pM (pM μ 6 (8 + L) (nI k)) 6 3 (nI (L + 1))) a = (nI (L + 1), pM (pM (pM (pM μ 6 (8 + L) (nI k)) 6 3 (nI (L + 1))) 12 L (nI k)) 7 1 (nI (L + 1))) := by
        unfold sp_X8_type
        rw [if_pos c, e71, nI_clamp (by omega), if_neg (show ¬ nI L = 60 from fun q => by have := nI_ij (b := 60) (by omega) (by omega) q; omega), ev]
      unfold Stq
      show nI (L + 1) = (sp_X8_type (pM (pM μ 6 (8 + L) (nI k)) 6 3 (nI (L + 1))) a).1 ∧ Inv B (sp_X8_type (pM (pM μ 6 (8 + L) (nI k)) 6 3 (nI (L + 1))) a).2
      rw [er]
      refine ⟨rfl, inv_tx h rfl (fun c h6 h7 h12 => by rw [row_n _ h7, row_n _ h12, row_n _ h6, row_n _ h6]) ?_ ?_ ⟨⟨L + 1, by omega, ?_, row_at _⟩, fun y hy => ?_, fun y hy => ?_⟩⟩
      · rw [row_n _ (by omega), row_n _ (by omega), row_k _ (by omega), row_k _ (by omega)]
      · rw [row_k _ (by omega), row_n _ (by omega), row_n _ (by omega), row_n _ (by omega)]
      · show (pM _ 7 1 _).1 6 3 = _
        rw [row_n _ (by omega), row_n _ (by omega)]; exact row_at _
      · show (pM _ 7 1 _).1 6 (8 + y) = (pM _ 7 1 _).1 12 y
        rw [row_n _ (by omega), row_n _ (by omega), row_k _ (by omega), row_n _ (show (12 : Nat) ≠ 7 by omega)]
        by_cases d : y = L
        · subst d; rw [row_at, row_at]
        · rw [row_k _ (by omega), row_k _ d, row_n _ (by omega), row_n _ (by omega)]; exact t3 y hy
      · show 0 ≤ ((pM _ 7 1 _).1 6 (8 + y)).toInt ∧ ((pM _ 7 1 _).1 6 (8 + y)).toInt < 65536
        rw [row_n _ (by omega), row_n _ (by omega), row_k _ (by omega)]
        by_cases d : y = L
        · subst d; rw [row_at, nI_toInt (by omega)]; omega
        · rw [row_k _ (by omega)]; exact t4 y hy
    · rw [if_neg (by rw [show (60 : Int32) = nI 60 from rfl, nI_ltI (by omega) (by omega)]; exact c1)]
      refine stq_rd h ?_
      show sp_X8_type _ a = _
      unfold sp_X8_type
      rw [if_pos c, t2, nI_clamp (by omega), show L = 60 by omega, if_pos (show nI 60 = 60 from rfl)]
  · rw [if_neg (fun q => c (i1.mp q))]
    refine stq_rd h ?_
    show sp_X8_type _ a = _
    unfold sp_X8_type
    rw [if_neg c]
