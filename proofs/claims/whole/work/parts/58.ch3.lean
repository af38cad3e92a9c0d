/-! ===== bath, cut, table, node ===== -/
theorem st_bath {B : Nat} {μ : Mu} (h : Inv B μ) (a b : Int32) : Stq B (sp_X7_bath μ a b) (fun m => sp_X8_bath m a b) := by
  have hS := h.1
  have k8 : ∀ x : Mu, (pC x 11 0 8 0 259).1 8 = x.1 8 := fun x => pC_row (by omega)
  unfold sp_X7_bath
  rw [senI hS]
  by_cases c : 0 ≤ a ∧ a ≤ μ.1 8 1 - 1
  · rw [if_pos c]
    obtain ⟨-, hn⟩ := sen_lt hS c
    have hc := simS_c hS
    generalize hna : a.toNatClampNeg = n at *
    show Stq B (if (-200000 : Int64) ≤ b.toInt64 ∧ b.toInt64 ≤ 850000 then _ else _) _
    by_cases c1 : (-200000 : Int32) ≤ b ∧ b ≤ 850000
    · rw [if_pos ((i2t b).mpr c1)]
      by_cases c2 : 2 ≤ rN (μ.1 8) (oN (μ.1 8) n) ∧ μ.1 8 (11 + 25 * (oN (μ.1 8) n) + 0) ≤ b ∧ b ≤ rL (μ.1 8) (oN (μ.1 8) n)
      · rw [if_neg (fun q => (can0 hS hn b).mp q c2), rec_0 h]
        refine stp_w (k' := 85 + 29 * n + 4) (v' := b) (w := μ.1 8 (85 + 29 * n + 4)) h (Nat.le_refl _) ?_ ((simS_N hS hn).1 4 (by omega)) (simS_B hS (by omega) (by omega)) ?_
        · have e8 : (pM (sp_X0_record μ) 0 (sF n 4) b).1 8 = μ.1 8 := by rw [row_n _ (by omega), rec_7 h (by omega)]
          have eb : sp_X8_baths (pC (pM (sp_X0_record μ) 0 (sF n 4) b) 11 0 8 0 259) a b = (μ.1 8 (85 + 29 * n + 4), pM (pC (pM (sp_X0_record μ) 0 (sF n 4) b) 11 0 8 0 259) 8 (85 + 29 * n + 4) b) := by
            unfold sp_X8_baths
            rw [k8, e8, hna, if_pos c, if_pos c1]
            exact if_pos c2
          show sp_X8_bath _ a b = _
          unfold sp_X8_bath
          rw [eb]
        · exact simS_g hS hn (by omega) (by omega) (by omega) rfl (nle_rg c1 (by decide)) (by omega) (by omega) (rgs_4 c2.2.1 c2.2.2 (simS_R hS))
      · rw [if_pos ((can0 hS hn b).mpr c2)]
        refine stp_nk h ?_
        have eb : sp_X8_baths (pC μ 11 0 8 0 259) a b = (-2000000002, pC μ 11 0 8 0 259) := by
          unfold sp_X8_baths
          rw [k8, hna, if_pos c, if_pos c1]
          exact if_neg c2
        show sp_X8_bath _ a b = _
        unfold sp_X8_bath
        rw [eb]; dsimp only; rw [acted_no (by decide)]
    · rw [if_neg (fun q => c1 ((i2t b).mp q))]
      refine stp_nk h ?_
      have eb : sp_X8_baths (pC μ 11 0 8 0 259) a b = (-2000000001, pC μ 11 0 8 0 259) := by
        unfold sp_X8_baths
        rw [k8, if_pos c, if_neg c1]
      show sp_X8_bath _ a b = _
      unfold sp_X8_bath
      rw [eb]; dsimp only; rw [acted_no (by decide)]
  · rw [if_neg c]
    refine stp_nk h ?_
    have eb : sp_X8_baths (pC μ 11 0 8 0 259) a b = (-2000000001, pC μ 11 0 8 0 259) := by
      unfold sp_X8_baths
      rw [k8, if_neg c]
    show sp_X8_bath _ a b = _
    unfold sp_X8_bath
    rw [eb]; dsimp only; rw [acted_no (by decide)]
theorem cut_t : ∀ k, k < 16 → ∀ j, j < 4 → sp_J6_bitCount_0f7a4 (nI k ^^^ ((1 : Int32) <<< (nI j &&& 31))) = sp_X8_bits (nI k ^^^ ((1 : Int32) <<< (nI j &&& 31))) ∧ ((nI k ^^^ ((1 : Int32) <<< (nI j &&& 31))) = nI (nI k ^^^ ((1 : Int32) <<< (nI j &&& 31))).toNatClampNeg ∧ (nI k ^^^ ((1 : Int32) <<< (nI j &&& 31))).toNatClampNeg < 16) ∧ ¬ sp_X8_bits (nI k ^^^ ((1 : Int32) <<< (nI j &&& 31))) ≤ -2000000001 ∧ (nI k >>> (nI j &&& 31) &&& 1 = 0 ∨ nI k >>> (nI j &&& 31) &&& 1 = 1) := by decide +kernel
theorem st_cut {B : Nat} {μ : Mu} (h : Inv B μ) (a b w : Int32) : Stq B (sp_X7_cut μ a b w) (fun m => sp_X8_cut m a b w) := by
  have hS := h.1
  have k8 : ∀ x : Mu, (pC x 11 0 8 0 259).1 8 = x.1 8 := fun x => pC_row (by omega)
  unfold sp_X7_cut
  rw [senI hS]
  by_cases c : 0 ≤ a ∧ a ≤ μ.1 8 1 - 1
  · rw [if_pos c]
    obtain ⟨-, hn⟩ := sen_lt hS c
    have hc := simS_c hS
    generalize hna : a.toNatClampNeg = n at *
    show Stq B (if 0 ≤ b ∧ b < μ.1 0 (sF n 1) then _ else _) _
    rw [show μ.1 0 (sF n 1) = μ.1 8 (85 + 29 * n + 1) from (simS_N hS hn).1 1 (by omega), show μ.1 0 (sF n 5) = μ.1 8 (85 + 29 * n + 12) from (simS_N hS hn).2.1]
    have hW := ((simS_RI hS).2.2.2 n (by omega)).2.2
    have h16 := (hS.2.2.2.2.2.2.2.2.2.2 n (by omega)).2.1
    by_cases c1 : 0 ≤ b ∧ b < μ.1 8 (85 + 29 * n + 1)
    · rw [if_pos c1]
      have c1' := (ni_pr hW (by omega)).mp c1
      obtain ⟨j, hj, rfl⟩ := ni_bl hW (by omega) c1
      have hj4 : j < 4 := by have := hW.2; omega
      by_cases c2 : (0 : Int32) ≤ w ∧ w ≤ 1
      · rw [if_pos ((i2g (by decide) (by decide)).mpr c2)]
        obtain ⟨k, hk, ek⟩ : ∃ k, k < 16 ∧ μ.1 8 (85 + 29 * n + 12) = nI k := ⟨_, h16.2, h16.1⟩
        obtain ⟨t1, t2, t3, t4⟩ := cut_t k hk j hj4
        obtain ⟨i, hi, rfl⟩ := b_in 1 rfl (by omega) c2
        rw [ek]
        have no : nI k >>> (nI j &&& 31) &&& 1 = nI i → Stq B (-2000000002, μ) (fun m => sp_X8_cut m a (nI j) (nI i)) := by
          intro q
          refine stp_nk h ?_
          have eb : sp_X8_cuts (pC μ 11 0 8 0 259) a (nI j) (nI i) = (-2000000002, pC μ 11 0 8 0 259) := by
            unfold sp_X8_cuts
            rw [k8, hna, if_pos ⟨c, c1'⟩, if_pos c2, nI_clamp (by omega), nI_clamp (by omega), ek]
            exact if_pos q
          show sp_X8_cut _ a _ _ = _
          unfold sp_X8_cut
          rw [eb]; dsimp only; rw [acted_no (by decide)]
        have ok : ¬ nI k >>> (nI j &&& 31) &&& 1 = nI i → Stq B (sp_J6_bitCount_0f7a4 ((sp_X3_turnWire (sp_X0_record μ) 0 n (nI j)).1 0 (sF n 5)), sp_X3_turnWire (sp_X0_record μ) 0 n (nI j)) (fun m => sp_X8_cut m a (nI j) (nI i)) := by
          intro q
          have e5 : (sp_X0_record μ).1 0 (sF n 5) = nI k := by rw [rec_0 h, show μ.1 0 (sF n 5) = μ.1 8 (85 + 29 * n + 12) from (simS_N hS hn).2.1, ek]
          unfold sp_X3_turnWire
          rw [e5, row_at]
          refine stp_w (k' := 85 + 29 * n + 12) (v' := nI k ^^^ ((1 : Int32) <<< (nI j &&& 31))) (w := sp_X8_bits (nI k ^^^ ((1 : Int32) <<< (nI j &&& 31)))) h (Nat.le_refl _) ?_ t1 t3 ?_
          · have e8 : (pM (sp_X0_record μ) 0 (sF n 5) (nI k ^^^ ((1 : Int32) <<< (nI j &&& 31)))).1 8 = μ.1 8 := by rw [row_n _ (by omega), rec_7 h (by omega)]
            have eb : sp_X8_cuts (pC (pM (sp_X0_record μ) 0 (sF n 5) (nI k ^^^ ((1 : Int32) <<< (nI j &&& 31)))) 11 0 8 0 259) a (nI j) (nI i) = (sp_X8_bits (nI k ^^^ ((1 : Int32) <<< (nI j &&& 31))), pM (pC (pM (sp_X0_record μ) 0 (sF n 5) (nI k ^^^ ((1 : Int32) <<< (nI j &&& 31)))) 11 0 8 0 259) 8 (85 + 29 * n + 12) (nI k ^^^ ((1 : Int32) <<< (nI j &&& 31)))) := by
              unfold sp_X8_cuts
              rw [k8, e8, hna, if_pos ⟨c, c1'⟩, if_pos c2, nI_clamp (by omega), nI_clamp (by omega), ek]
              exact if_neg q
            show sp_X8_cut _ a _ _ = _
            unfold sp_X8_cut
            rw [eb]
          · exact simS_g hS hn (by omega) (by omega) (by omega) rfl (nle_bd (by have := t2.2; rw [t2.1, nI_toInt (by omega)]; omega)) (fun _ => t2) (by omega) (rgs_w (by omega) (by omega) (simS_R hS))
        rcases (show i = 0 ∨ i = 1 by omega) with rfl | rfl
        · rw [if_neg (by decide)]
          rcases t4 with q | q
          · rw [if_neg (by rw [q]; decide)]; exact no q
          · rw [if_pos q]; exact ok (by rw [q]; decide)
        · rw [if_pos (by decide)]
          rcases t4 with q | q
          · rw [if_neg (by rw [q]; decide)]; exact ok (by rw [q]; decide)
          · rw [if_pos (by rw [q]; decide)]; exact no q
      · rw [if_neg (fun q => c2 ((i2g (by decide) (by decide)).mp q))]
        refine stp_nk h ?_
        have eb : sp_X8_cuts (pC μ 11 0 8 0 259) a (nI j) w = (-2000000001, pC μ 11 0 8 0 259) := by
          unfold sp_X8_cuts
          rw [k8, hna, if_pos ⟨c, c1'⟩, if_neg c2]
        show sp_X8_cut _ a _ _ = _
        unfold sp_X8_cut
        rw [eb]; dsimp only; rw [acted_no (by decide)]
    · rw [if_neg c1]
      refine stp_nk h ?_
      have eb : sp_X8_cuts (pC μ 11 0 8 0 259) a b w = (-2000000001, pC μ 11 0 8 0 259) := by
        unfold sp_X8_cuts
        rw [k8, hna, if_neg (fun q => c1 ((ni_pr hW (by omega)).mpr q.2))]
      show sp_X8_cut _ a _ _ = _
      unfold sp_X8_cut
      rw [eb]; dsimp only; rw [acted_no (by decide)]
  · rw [if_neg c]
    refine stp_nk h ?_
    have eb : sp_X8_cuts (pC μ 11 0 8 0 259) a b w = (-2000000001, pC μ 11 0 8 0 259) := by
      unfold sp_X8_cuts
      rw [k8, if_neg (fun q => c q.1)]
    show sp_X8_cut _ a _ _ = _
    unfold sp_X8_cut
    rw [eb]; dsimp only; rw [acted_no (by decide)]
theorem simS_tab {B k : Nat} {g s : Nat → Int32} (h : SimS B g s) (h0 : s 0 = nI k) (hk : k < 3) : SimS B (ur g 0 (nI (k + 1))) (ur s 0 (nI (k + 1))) := by
  have c := simS_c h
  obtain ⟨hT, hP, hN, hpl, hno, hnt, hR, hm, hd, hb⟩ := h
  have e1 : ur s 0 (nI (k + 1)) 1 = s 1 := ur_n (by omega)
  have cc : cS (ur s 0 (nI (k + 1))) = cS s := by show (ur s 0 (nI (k + 1)) 1).toNatClampNeg = _; rw [e1]
  have e : ∀ y, 10 ≤ y → ur s 0 (nI (k + 1)) y = s y := fun y hy => ur_n (by omega)
  refine ⟨⟨?_, ?_, fun k hk => ?_, fun k hk => ?_⟩, ?_, fun n hn => ⟨fun f hf h6 => ?_, ?_⟩, fun n hn => ?_, fun n hn hc => ⟨fun f hf h6 => ?_, ?_⟩, fun t ht hc => ?_, ?_, ?_, fun n n' hn hn' e => ?_, fun k hk => ?_, fun n hn => ⟨fun f hf => ?_, ?_⟩⟩
  · rw [ur_s, ur_s]
  · rw [ur_n (by omega), ur_n (by omega)]; exact hT.2.1
  · rw [ur_n (by omega), ur_n (by omega)]; exact hT.2.2.1 k hk
  · rw [ur_n (by omega), ur_n (by omega)]; exact hT.2.2.2 k hk
  · rw [ur_n (by omega), ur_n (by omega)]; exact hP
  · rw [ur_n (by omega), ur_n (by omega)]; exact (hN n hn).1 f hf h6
  · obtain ⟨r, a1, a2, a3, a4⟩ := (hN n hn).2
    refine ⟨r, a1, ?_, ?_, fun i hi => ?_⟩
    · rw [ur_n (by omega)]; exact a2
    · rw [ur_n (by omega)]; exact a3
    · rw [ur_n (by omega), ur_n (by omega)]; exact a4 i hi
  · rw [cc] at hn
    rw [ur_n (by omega), ur_n (by omega)]; exact hpl n hn
  · rw [cc] at hc
    rw [ur_n (by omega)]; exact (hno n hn hc).1 f hf h6
  · rw [cc] at hc
    rw [ur_n (by omega)]; exact (hno n hn hc).2
  · rw [ur_s, nI_clamp (by omega)] at hc
    rw [ur_n (by omega)]; exact hnt t ht (by rw [h0, nI_clamp (by omega)]; omega)
  · obtain ⟨⟨hI, hT, q2, q3, q4, q5⟩, hS⟩ := hR
    exact ⟨⟨⟨by rw [ur_s]; exact ni_nI (by omega) (by omega), by rw [e1]; exact hI.2.1, fun t ht => by rw [e _ (by omega)]; exact hI.2.2.1 t ht, fun n hn => by rw [e _ (by omega), e _ (by omega), e _ (by omega)]; exact hI.2.2.2 n hn⟩, fun t ht => ⟨rt_hi e (hT t ht).1, rq_hi e (hT t ht).2⟩, by rw [ur_n (by omega)]; exact q2, by rw [ur_n (by omega)]; exact q3, by rw [ur_n (by omega)]; exact q4, by rw [ur_n (by omega)]; exact q5⟩, fun n hn => rs_hi e (hS n (by rw [cc] at hn; exact hn))⟩
  · rw [ur_n (by omega)]; exact hm
  · rw [cc] at hn
    rw [ur_n (by omega), ur_n (by omega)] at e
    rw [ur_n (by omega)]; exact hd n n' hn hn' e
  · rw [ur_n (by omega)]; exact hb.1 k hk
  · rw [ur_n (by omega)]; exact (hb.2 n hn).1 f hf
  · exact brk_eq (hb.2 n hn).2 (ur_n (by omega)) (ur_n (by omega))
theorem st_table {B : Nat} {μ : Mu} (h : Inv B μ) : Stq B (sp_X7_table μ) (fun m => sp_X8_table m) := by
  have hS := h.1
  have hI := simS_RI hS
  obtain ⟨k, hk, ek⟩ : ∃ k, k < 4 ∧ μ.1 8 0 = nI k := ⟨_, hI.1.2, hI.1.1⟩
  unfold sp_X7_table
  rw [rec_0 h, hS.1.1, ek]
  by_cases c : k < 3
  · rw [if_pos (by rw [show (3 : Int32) = nI 3 from rfl, nI_ltI (by omega) (by omega)]; exact c), nI_1]
    refine stp_ch (m := pM (pM (pC (pM (sp_X0_record μ) 0 0 (nI (k + 1))) 11 0 8 0 259) 8 (10 + 25 * k) 0) 8 0 (nI (k + 1))) (w := nI (k + 1) - 1) h (Nat.le_refl _) ⟨rfl, fun c hc => row_n _ hc⟩ ?_ rfl ⟨rfl, fun c h1 h2 => ?_, fun y hy => ?_⟩ ?_ ?_
    · have e8 : (pM (sp_X0_record μ) 0 0 (nI (k + 1))).1 8 = μ.1 8 := by rw [row_n _ (by omega), rec_7 h (by omega)]
      show sp_X8_table _ = _
      unfold sp_X8_table
      rw [e8, ek, nI_clamp (by omega), if_neg (fun q => by have := nI_ij (b := 3) (by omega) (by omega) q; omega)]
    · rw [row_n _ h1, row_n _ h1, pC_row h2]
    · rw [row_n _ (by omega), row_n _ (by omega), kp_11 _ hy]
    · rw [nI_pred]; exact nle_bd (by rw [nI_toInt (by omega)]; omega)
    · rw [row_s, row_s, row_s, pC_row (by omega), row_n _ (show (8 : Nat) ≠ 0 by omega), rec_0 h, rec_7 h (by omega)]
      have z := hS.2.2.2.2.2.1 k c (by rw [ek, nI_clamp (by omega)]; omega)
      exact simS_tab (simS_eq hS (fun _ _ => rfl) (fun y _ => by
        by_cases d : y = 10 + 25 * k
        · rw [d, ur_s, z]
        · rw [ur_n d])) (by rw [ur_n (by omega)]; exact ek) c
  · rw [if_neg (by rw [show (3 : Int32) = nI 3 from rfl, nI_ltI (by omega) (by omega)]; exact c)]
    refine stp_no h (Nat.le_refl _) ?_
    show sp_X8_table _ = _
    unfold sp_X8_table
    rw [ek, nI_clamp (by omega), if_pos (by rw [show k = 3 by omega]; rfl)]
