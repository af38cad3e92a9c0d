/-! ===== the law: leads ===== -/
section LX
variable {μ u : Mu} {N k : Nat} {v z : Int32}
theorem rem_nat {w : Nat} (hz : 0 ≤ z.toInt) (h0 : 0 < w) (hw : w < 1000) : ∃ j : Nat, j < w ∧ z - z / nI w * nI w = nI j := by
  have hd : (nI w).toInt = (w : Int) := nI_toInt (by omega)
  have b := rem_b (x := z) (d := nI w) hz (by omega)
  obtain ⟨j, hj, e⟩ := nI_of (x := z - z / nI w * nI w) (fun q => by rw [Int32.lt_iff_toInt_lt, Int32.toInt_zero] at q; omega)
  rw [e, nI_toInt hj] at b
  exact ⟨j, by omega, e⟩
theorem a_ld (hs : Same μ u) (h1 : μ.1 0 1 = nI N) (hN : N ≤ 6) (hk : k < N) (hO : Hok μ) {j ws : Nat} (hw : μ.1 0 (sF k 1) = nI ws) (hw4 : ws ≤ 4) (hj : j < ws) (hv : 0 ≤ v.toInt ∧ v.toInt ≤ 50000) : (sp_X7_lead u (nI k) (nI j) v).1 = μ.1 0 (sF k (12 + j)) ∧ (sp_X7_lead u (nI k) (nI j) v).2.1 0 = ur (μ.1 0) (sF k (12 + j)) v ∧ Hk (sp_X7_lead u (nI k) (nI j) v).2 (μ.1 0) := by
  rw [← hs.g]
  exact ld_v (by rw [hs.g]; exact h1) hN hk (hO.same hs) (by rw [hs.g]; exact hw) hw4 hj hv
end LX
set_option maxHeartbeats 8000000 in
set_option maxRecDepth 100000 in
theorem k_L_leads (l : Launch) (E : En) (μ : Mu) {T N B k : Nat} (h : Gd (μ.1 0) T N B) (hk : k < N) (hO : Hok μ) {z : Int32} (hz : 0 ≤ z.toInt) : MtP l yL_leads cL_leads 9 .boolean ({ frames := 5, cells := 0, slots := 0, locals := 134 }) [.ref (E.1 231), .int (nI k), .int z] E μ (fun r u => r = 1 ∧ u.1 0 = μ.1 0 ∧ Hok u) := by
  refine mt_of (by decide +kernel) (Nat.le_of_ble_eq_true rfl) ?_
  intro p e s m args below meth c ls hf hr hlocks hl hw
  have hx := hf.1
  have hb := hf.2.1
  have hl : lv_has ls 9 [(0, .ref (E.1 231)), (1, .int (nI k)), (2, .int z)] := hl
  have hk4 : k < 4 := by have := h.1.2; omega
  have hN : N ≤ 6 := by have := h.1.2; omega
  have hT3 : T ≤ 3 := by have := h.1.1; omega
  have h1 := h.2.1.2
  obtain ⟨⟨t, ht, et⟩, j1, -⟩ := h.2.2.2.2.1 k hk
  refine lv_aload_n hx hb dL_leads_0 rfl (lv_at hl 0 rfl) ?_
  refine lv_iload_n hx hb dL_leads_1 rfl (lv_at hl 1 rfl) ?_
  refine lv_iconst (v := 5) hx hb dL_leads_2 (by decide) ?_
  refine c_iV (v := (wop (μ.1 0) k).toInt32) (P := fun z => Same μ z) (a_o5 Same.rf h1 hN hk) hw (run_V (As := [.int (nI k), .int 5]) (rest := []) (np := 2) hf hw (k_X7_ohms l E _ (nI k) 5) ⟨gl_V q371 q372 q373 q2 q374, by decide +kernel⟩ ⟨rfl, rfl, Nat.le_of_ble_eq_true rfl, Nat.le_of_ble_eq_true rfl⟩ (by decide) (c_O E _) rfl rfl hl.1 rfl (Nat.le_of_ble_eq_true rfl) dL_leads_3 ⟨Nat.zero_le _, Nat.zero_le _⟩) (fun μ1 H locs s1 hw => ?_)
  refine lv_istore_n (lv' := [(3, .int ((wop (μ.1 0) k).toInt32)), (0, .ref (E.1 231)), (1, .int (nI k)), (2, .int z)]) hx hb dL_leads_6 rfl hl (by decide) rfl (fun ls hl => ?_)
  refine lv_aload_n hx hb dL_leads_7 rfl (lv_at hl 1 rfl) ?_
  refine lv_iload_n hx hb dL_leads_8 rfl (lv_at hl 2 rfl) ?_
  refine lv_sipush (v := 1000) hx hb dL_leads_9 (by decide) ?_
  refine lv_iconst (v := 0) hx hb dL_leads_12 (by decide) ?_
  refine lv_iconst (v := 2) hx hb dL_leads_13 (by decide) ?_
  refine c_iV (v := ((one (μ.1 0) k (1000 : Int32).toInt64 - oth (μ.1 0) k (1000 : Int32).toInt64) / 2).toInt32) (P := fun z => Same μ z) (a_k2 (a := 1000) s1 h1 hN hk (by decide)) hw (run_V (As := [.int (nI k), .int 1000, .int 0, .int 2]) (rest := []) (np := 4) hf hw (k_X7_counts l E _ (nI k) 1000 0 2) ⟨gl_V q359 q360 q361 q2 q362, by decide +kernel⟩ ⟨rfl, rfl, Nat.le_of_ble_eq_true rfl, Nat.le_of_ble_eq_true rfl⟩ (by decide) (c_O E _) rfl rfl hl.1 rfl (Nat.le_of_ble_eq_true rfl) dL_leads_14 ⟨Nat.zero_le _, Nat.zero_le _⟩) (fun μ2 H locs s2 hw => ?_)
  refine lv_istore (lv' := [(4, .int (((one (μ.1 0) k (1000 : Int32).toInt64 - oth (μ.1 0) k (1000 : Int32).toInt64) / 2).toInt32)), (3, .int ((wop (μ.1 0) k).toInt32)), (0, .ref (E.1 231)), (1, .int (nI k)), (2, .int z)]) hx hb dL_leads_17 hl (by decide) rfl (fun ls hl => ?_)
  refine lv_iload_n hx hb dL_leads_19 rfl (lv_at hl 4 rfl) ?_
  refine lv_aload_n hx hb dL_leads_20 rfl (lv_at hl 2 rfl) ?_
  refine lv_iload_n hx hb dL_leads_21 rfl (lv_at hl 3 rfl) ?_
  refine lv_iconst (v := 1) hx hb dL_leads_22 (by decide) ?_
  refine c_iV (v := nI (2 + k % 3)) (P := fun z => Same μ z) (⟨(a_s1 s2 h1 hN hk).1.trans j1, (a_s1 s2 h1 hN hk).2⟩) hw (run_V (As := [.int (nI k), .int 1]) (rest := [.int z]) (np := 2) hf hw (k_X7_sensorOf l E _ (nI k) 1) ⟨gl_V q199 q200 q201 q2 q202, by decide +kernel⟩ ⟨rfl, rfl, Nat.le_of_ble_eq_true rfl, Nat.le_of_ble_eq_true rfl⟩ (by decide) (c_O E _) rfl rfl hl.1 rfl (Nat.le_of_ble_eq_true rfl) dL_leads_23 ⟨Nat.zero_le _, Nat.zero_le _⟩) (fun μ3 H locs s3 hw => ?_)
  refine lv_irem hx hb dL_leads_26 (nI_ne0 (by omega) (by omega)) ?_
  refine lv_topi (fun wi ewi => ?_)
  obtain ⟨j, hj, rfl⟩ : ∃ j : Nat, j < 2 + k % 3 ∧ wi = nI j := by rw [ewi]; exact rem_nat hz (by omega) (by omega)
  clear ewi
  refine lv_istore (lv' := [(5, .int (nI j)), (4, .int (((one (μ.1 0) k (1000 : Int32).toInt64 - oth (μ.1 0) k (1000 : Int32).toInt64) / 2).toInt32)), (3, .int ((wop (μ.1 0) k).toInt32)), (0, .ref (E.1 231)), (1, .int (nI k)), (2, .int z)]) hx hb dL_leads_27 hl (by decide) rfl (fun ls hl => ?_)
  refine lv_aload_n hx hb dL_leads_29 rfl (lv_at hl 3 rfl) ?_
  refine lv_iload_n hx hb dL_leads_30 rfl (lv_at hl 4 rfl) ?_
  refine lv_iconst (v := 5) hx hb dL_leads_31 (by decide) ?_
  refine lv_iload hx hb dL_leads_32 (lv_at hl 0 rfl) ?_
  refine lv_iadd hx hb dL_leads_34 ?_
  refine fold_i (show (5 + nI j : Int32) = nI (5 + j) from nI_add 5 j) ?_
  refine c_iV (v := μ.1 0 (sF k (12 + j))) (P := fun z => Same μ z) (a_sw s3 h1 hN hk j1 (by omega) hj) hw (run_V (As := [.int (nI k), .int (nI (5 + j))]) (rest := []) (np := 2) hf hw (k_X7_sensorOf l E _ (nI k) (nI (5 + j))) ⟨gl_V q199 q200 q201 q2 q202, by decide +kernel⟩ ⟨rfl, rfl, Nat.le_of_ble_eq_true rfl, Nat.le_of_ble_eq_true rfl⟩ (by decide) (c_O E _) rfl rfl hl.1 rfl (Nat.le_of_ble_eq_true rfl) dL_leads_35 ⟨Nat.zero_le _, Nat.zero_le _⟩) (fun μ4 H locs s4 hw => ?_)
  refine lv_istore (lv' := [(6, .int (μ.1 0 (sF k (12 + j)))), (5, .int (nI j)), (4, .int (((one (μ.1 0) k (1000 : Int32).toInt64 - oth (μ.1 0) k (1000 : Int32).toInt64) / 2).toInt32)), (3, .int ((wop (μ.1 0) k).toInt32)), (0, .ref (E.1 231)), (1, .int (nI k)), (2, .int z)]) hx hb dL_leads_38 hl (by decide) rfl (fun ls hl => ?_)
  refine lv_aload_n hx hb dL_leads_40 rfl (lv_at hl 4 rfl) ?_
  refine lv_iload_n hx hb dL_leads_41 rfl (lv_at hl 5 rfl) ?_
  refine lv_iload hx hb dL_leads_42 (lv_at hl 1 rfl) ?_
  refine lv_iload_n hx hb dL_leads_44 rfl (lv_at hl 6 rfl) ?_
  refine lv_iconst (v := 4) hx hb dL_leads_45 (by decide) ?_
  refine lv_idiv hx hb dL_leads_46 (by decide) ?_
  refine lv_ldc hx hb hf.2.2.2.1 (hf.2.2.2.2 _ q485) dL_leads_47 ?_
  refine lv_irem hx hb dL_leads_49 (by decide) ?_
  refine lv_topi (fun v ev => ?_)
  have hv0 : 0 ≤ v.toInt ∧ v.toInt ≤ 50000 := by
      have b := rem_b (x := z / 4) (d := 50001) (div_b hz (by decide)).1 (by decide)
      rw [show (50001 : Int32).toInt = 50001 by decide] at b
      rw [ev]
      omega
  clear ev
  refine c_iV (v := μ.1 0 (sF k (12 + j))) (P := fun z => z.1 0 = ur (μ.1 0) (sF k (12 + j)) v ∧ Hk z (μ.1 0)) (a_ld s4 h1 hN hk hO j1 (by omega) hj hv0) hw (run_V (As := [.int (nI k), .int (nI j), .int v]) (rest := []) (np := 3) hf hw (k_X7_lead l E _ (nI k) (nI j) v ((hO.same s4).K)) ⟨gl_V q486 q487 q488 q2 q489, by decide +kernel⟩ ⟨rfl, rfl, Nat.le_of_ble_eq_true rfl, Nat.le_of_ble_eq_true rfl⟩ (by decide) (c_O E _) rfl rfl hl.1 rfl (Nat.le_of_ble_eq_true rfl) dL_leads_50 ⟨Nat.zero_le _, Nat.zero_le _⟩) (fun μ5 H locs s5 hw => ?_)
  obtain ⟨e5, k5⟩ := s5
  have h1b : μ5.1 0 1 = nI N := by rw [e5, ur_n (by unfold sF; omega)]; exact h1
  have j1b : μ5.1 0 (sF k 1) = nI (2 + k % 3) := by rw [e5, ur_n (by unfold sF; omega)]; exact j1
  refine lv_iload hx hb dL_leads_53 (lv_at hl 0 rfl) ?_
  refine lv_icmp_ne (tgt := 62) hx hb dL_leads_55 (by decide) (fun c => absurd rfl c) (fun _ => ?_)
  refine lv_iconst (v := 1) hx hb dL_leads_58 (by decide) ?_
  refine lv_goto (tgt := 63) hx hb dL_leads_59 (by decide) ?_
  refine lv_istore (lv' := [(7, .int 1), (6, .int (μ.1 0 (sF k (12 + j)))), (5, .int (nI j)), (4, .int (((one (μ.1 0) k (1000 : Int32).toInt64 - oth (μ.1 0) k (1000 : Int32).toInt64) / 2).toInt32)), (3, .int ((wop (μ.1 0) k).toInt32)), (0, .ref (E.1 231)), (1, .int (nI k)), (2, .int z)]) hx hb dL_leads_63 hl (by decide) rfl (fun ls hl => ?_)
  refine lv_aload_n hx hb dL_leads_65 rfl (lv_at hl 5 rfl) ?_
  refine lv_iload_n hx hb dL_leads_66 rfl (lv_at hl 6 rfl) ?_
  refine lv_iconst (v := 1) hx hb dL_leads_67 (by decide) ?_
  refine c_iV (v := nI (2 + k % 3)) (P := fun z => Same μ5 z) (⟨(a_s1 Same.rf h1b hN hk).1.trans j1b, (a_s1 Same.rf h1b hN hk).2⟩) hw (run_V (As := [.int (nI k), .int 1]) (rest := []) (np := 2) hf hw (k_X7_sensorOf l E _ (nI k) 1) ⟨gl_V q199 q200 q201 q2 q202, by decide +kernel⟩ ⟨rfl, rfl, Nat.le_of_ble_eq_true rfl, Nat.le_of_ble_eq_true rfl⟩ (by decide) (c_O E _) rfl rfl hl.1 rfl (Nat.le_of_ble_eq_true rfl) dL_leads_68 ⟨Nat.zero_le _, Nat.zero_le _⟩) (fun μ6 H locs s6 hw => ?_)
  refine lv_iconst (v := 4) hx hb dL_leads_71 (by decide) ?_
  refine lv_icmp_ne (tgt := 79) hx hb dL_leads_72 (by decide) (fun z1 => ?_) (fun z1 => ?_)
  · refine lv_iconst (v := 0) hx hb dL_leads_79 (by decide) ?_
    refine lv_istore (lv' := [(8, .int 0), (7, .int 1), (6, .int (μ.1 0 (sF k (12 + j)))), (5, .int (nI j)), (4, .int (((one (μ.1 0) k (1000 : Int32).toInt64 - oth (μ.1 0) k (1000 : Int32).toInt64) / 2).toInt32)), (3, .int ((wop (μ.1 0) k).toInt32)), (0, .ref (E.1 231)), (1, .int (nI k)), (2, .int z)]) hx hb dL_leads_80 hl (by decide) rfl (fun ls hl => ?_)
    refine lv_iload hx hb dL_leads_82 (lv_at hl 1 rfl) ?_
    refine lv_if_eq (tgt := 121) hx hb dL_leads_84 (by decide) (fun c => absurd c (by decide)) (fun _ => ?_)
    refine lv_iload hx hb dL_leads_87 (lv_at hl 0 rfl) ?_
    refine lv_if_eq (tgt := 117) hx hb dL_leads_89 (by decide) (fun _ => ?_) (fun c => absurd (by decide) c)
    refine lv_iconst (v := 1) hx hb dL_leads_117 (by decide) ?_
    refine lv_goto (tgt := 122) hx hb dL_leads_118 (by decide) ?_
    refine lv_istore (lv' := [(7, .int 1), (8, .int 0), (6, .int (μ.1 0 (sF k (12 + j)))), (5, .int (nI j)), (4, .int (((one (μ.1 0) k (1000 : Int32).toInt64 - oth (μ.1 0) k (1000 : Int32).toInt64) / 2).toInt32)), (3, .int ((wop (μ.1 0) k).toInt32)), (0, .ref (E.1 231)), (1, .int (nI k)), (2, .int z)]) hx hb dL_leads_122 hl (by decide) rfl (fun ls hl => ?_)
    refine lv_iload hx hb dL_leads_124 (lv_at hl 0 rfl) ?_
    refine lv_if_eq (tgt := 164) hx hb dL_leads_126 (by decide) (fun c => absurd c (by decide)) (fun _ => ?_)
    obtain ⟨⟨st, hst, est⟩, eg, eok⟩ := undo_hk (k5.same s6)
    refine lv_aload_n hx hb dL_leads_129 rfl (lv_at hl 6 rfl) ?_
    refine c_iV (v := nI st) (P := fun z => z.1 0 = μ.1 0 ∧ Hok z) (⟨est, eg, eok⟩) hw (run_V (As := []) (rest := []) (np := 0) hf hw (k_X7_undo l E _  ((k5.same s6).ok.K)) ⟨gl_V q495 q496 q497 q2 q498, by decide +kernel⟩ ⟨rfl, rfl, Nat.le_of_ble_eq_true rfl, Nat.le_of_ble_eq_true rfl⟩ (by decide) (c_O E _) rfl rfl hl.1 rfl (Nat.le_of_ble_eq_true rfl) dL_leads_130 ⟨Nat.zero_le _, Nat.zero_le _⟩) (fun μ7 H locs s7 hw => ?_)
    obtain ⟨e6, k6⟩ := s7
    have h1c : μ7.1 0 1 = nI N := by rw [e6]; exact h1
    have j1c : μ7.1 0 (sF k 1) = nI (2 + k % 3) := by rw [e6]; exact j1
    refine lv_if_lt (tgt := 164) hx hb dL_leads_133 (by decide) (fun c => absurd c (nI_pos (by omega))) (fun _ => ?_)
    refine lv_aload_n hx hb dL_leads_136 rfl (lv_at hl 6 rfl) ?_
    refine lv_iload_n hx hb dL_leads_137 rfl (lv_at hl 7 rfl) ?_
    refine lv_iconst (v := 5) hx hb dL_leads_138 (by decide) ?_
    refine lv_iload hx hb dL_leads_139 (lv_at hl 3 rfl) ?_
    refine lv_iadd hx hb dL_leads_141 ?_
    refine fold_i (show (5 + nI j : Int32) = nI (5 + j) from nI_add 5 j) ?_
    refine c_iV (v := μ.1 0 (sF k (12 + j))) (P := fun z => Same μ7 z) (⟨(a_sw Same.rf h1c hN hk j1c (by omega) hj).1.trans (by rw [e6]), (a_sw Same.rf h1c hN hk j1c (by omega) hj).2⟩) hw (run_V (As := [.int (nI k), .int (nI (5 + j))]) (rest := []) (np := 2) hf hw (k_X7_sensorOf l E _ (nI k) (nI (5 + j))) ⟨gl_V q199 q200 q201 q2 q202, by decide +kernel⟩ ⟨rfl, rfl, Nat.le_of_ble_eq_true rfl, Nat.le_of_ble_eq_true rfl⟩ (by decide) (c_O E _) rfl rfl hl.1 rfl (Nat.le_of_ble_eq_true rfl) dL_leads_142 ⟨Nat.zero_le _, Nat.zero_le _⟩) (fun μ8 H locs s8 hw => ?_)
    refine lv_iload hx hb dL_leads_145 (lv_at hl 2 rfl) ?_
    refine lv_icmp_ne (tgt := 164) hx hb dL_leads_147 (by decide) (fun c => absurd rfl c) (fun _ => ?_)
    refine lv_aload_n hx hb dL_leads_150 rfl (lv_at hl 6 rfl) ?_
    refine lv_iload_n hx hb dL_leads_151 rfl (lv_at hl 7 rfl) ?_
    refine lv_iconst (v := 5) hx hb dL_leads_152 (by decide) ?_
    refine c_iV (v := (wop (μ.1 0) k).toInt32) (P := fun z => Same μ7 z) (⟨(a_o5 s8 h1c hN hk).1.trans (by rw [e6]), (a_o5 s8 h1c hN hk).2⟩) hw (run_V (As := [.int (nI k), .int 5]) (rest := []) (np := 2) hf hw (k_X7_ohms l E _ (nI k) 5) ⟨gl_V q371 q372 q373 q2 q374, by decide +kernel⟩ ⟨rfl, rfl, Nat.le_of_ble_eq_true rfl, Nat.le_of_ble_eq_true rfl⟩ (by decide) (c_O E _) rfl rfl hl.1 rfl (Nat.le_of_ble_eq_true rfl) dL_leads_153 ⟨Nat.zero_le _, Nat.zero_le _⟩) (fun μ9 H locs s9 hw => ?_)
    refine lv_iload_n hx hb dL_leads_156 rfl (lv_at hl 5 rfl) ?_
    refine lv_icmp_ne (tgt := 164) hx hb dL_leads_157 (by decide) (fun c => absurd rfl c) (fun _ => ?_)
    refine lv_iconst (v := 1) hx hb dL_leads_160 (by decide) ?_
    refine lv_goto (tgt := 165) hx hb dL_leads_161 (by decide) ?_
    exact e_iP hf hr hlocks hw rfl (⟨rfl, s9.g.trans e6, k6.same s9⟩) dL_leads_165
  · refine lv_iconst (v := 1) hx hb dL_leads_75 (by decide) ?_
    refine lv_goto (tgt := 80) hx hb dL_leads_76 (by decide) ?_
    refine lv_istore (lv' := [(8, .int 1), (7, .int 1), (6, .int (μ.1 0 (sF k (12 + j)))), (5, .int (nI j)), (4, .int (((one (μ.1 0) k (1000 : Int32).toInt64 - oth (μ.1 0) k (1000 : Int32).toInt64) / 2).toInt32)), (3, .int ((wop (μ.1 0) k).toInt32)), (0, .ref (E.1 231)), (1, .int (nI k)), (2, .int z)]) hx hb dL_leads_80 hl (by decide) rfl (fun ls hl => ?_)
    refine lv_iload hx hb dL_leads_82 (lv_at hl 1 rfl) ?_
    refine lv_if_eq (tgt := 121) hx hb dL_leads_84 (by decide) (fun c => absurd c (by decide)) (fun _ => ?_)
    refine lv_iload hx hb dL_leads_87 (lv_at hl 0 rfl) ?_
    refine lv_if_eq (tgt := 117) hx hb dL_leads_89 (by decide) (fun c => absurd c (by decide)) (fun _ => ?_)
    refine lv_aload_n hx hb dL_leads_92 rfl (lv_at hl 6 rfl) ?_
    refine lv_iload_n hx hb dL_leads_93 rfl (lv_at hl 7 rfl) ?_
    refine lv_iconst (v := 5) hx hb dL_leads_94 (by decide) ?_
    refine c_iV (v := (wop (μ.1 0) k).toInt32) (P := fun z => Same μ5 z) (⟨(a_o5 s6 h1b hN hk).1.trans (by rw [e5, (wop_lead (c := 0) h.2.1.1 hT3 ht et (by rw [j1]; exact z1) (show j < 4 by omega)).2.2]), (a_o5 s6 h1b hN hk).2⟩) hw (run_V (As := [.int (nI k), .int 5]) (rest := []) (np := 2) hf hw (k_X7_ohms l E _ (nI k) 5) ⟨gl_V q371 q372 q373 q2 q374, by decide +kernel⟩ ⟨rfl, rfl, Nat.le_of_ble_eq_true rfl, Nat.le_of_ble_eq_true rfl⟩ (by decide) (c_O E _) rfl rfl hl.1 rfl (Nat.le_of_ble_eq_true rfl) dL_leads_95 ⟨Nat.zero_le _, Nat.zero_le _⟩) (fun μ10 H locs s10 hw => ?_)
    refine lv_iload_n hx hb dL_leads_98 rfl (lv_at hl 5 rfl) ?_
    refine lv_icmp_ne (tgt := 121) hx hb dL_leads_99 (by decide) (fun c => absurd rfl c) (fun _ => ?_)
    refine lv_aload_n hx hb dL_leads_102 rfl (lv_at hl 6 rfl) ?_
    refine lv_iload_n hx hb dL_leads_103 rfl (lv_at hl 7 rfl) ?_
    refine lv_sipush (v := 1000) hx hb dL_leads_104 (by decide) ?_
    refine lv_iconst (v := 0) hx hb dL_leads_107 (by decide) ?_
    refine lv_iconst (v := 2) hx hb dL_leads_108 (by decide) ?_
    refine c_iV (v := ((one (μ.1 0) k (1000 : Int32).toInt64 - oth (μ.1 0) k (1000 : Int32).toInt64) / 2).toInt32) (P := fun z => Same μ5 z) (⟨(a_k2 (a := 1000) s10 h1b hN hk (by decide)).1.trans (by rw [e5, (wop_lead (c := (1000 : Int32).toInt64) h.2.1.1 hT3 ht et (by rw [j1]; exact z1) (show j < 4 by omega)).1, (wop_lead (c := (1000 : Int32).toInt64) h.2.1.1 hT3 ht et (by rw [j1]; exact z1) (show j < 4 by omega)).2.1]), (a_k2 (a := 1000) s10 h1b hN hk (by decide)).2⟩) hw (run_V (As := [.int (nI k), .int 1000, .int 0, .int 2]) (rest := []) (np := 4) hf hw (k_X7_counts l E _ (nI k) 1000 0 2) ⟨gl_V q359 q360 q361 q2 q362, by decide +kernel⟩ ⟨rfl, rfl, Nat.le_of_ble_eq_true rfl, Nat.le_of_ble_eq_true rfl⟩ (by decide) (c_O E _) rfl rfl hl.1 rfl (Nat.le_of_ble_eq_true rfl) dL_leads_109 ⟨Nat.zero_le _, Nat.zero_le _⟩) (fun μ11 H locs s11 hw => ?_)
    refine lv_iload hx hb dL_leads_112 (lv_at hl 4 rfl) ?_
    refine lv_icmp_ne (tgt := 121) hx hb dL_leads_114 (by decide) (fun c => absurd rfl c) (fun _ => ?_)
    refine lv_iconst (v := 1) hx hb dL_leads_117 (by decide) ?_
    refine lv_goto (tgt := 122) hx hb dL_leads_118 (by decide) ?_
    refine lv_istore (lv' := [(7, .int 1), (8, .int 1), (6, .int (μ.1 0 (sF k (12 + j)))), (5, .int (nI j)), (4, .int (((one (μ.1 0) k (1000 : Int32).toInt64 - oth (μ.1 0) k (1000 : Int32).toInt64) / 2).toInt32)), (3, .int ((wop (μ.1 0) k).toInt32)), (0, .ref (E.1 231)), (1, .int (nI k)), (2, .int z)]) hx hb dL_leads_122 hl (by decide) rfl (fun ls hl => ?_)
    refine lv_iload hx hb dL_leads_124 (lv_at hl 0 rfl) ?_
    refine lv_if_eq (tgt := 164) hx hb dL_leads_126 (by decide) (fun c => absurd c (by decide)) (fun _ => ?_)
    obtain ⟨⟨st, hst, est⟩, eg, eok⟩ := undo_hk (k5.same s11)
    refine lv_aload_n hx hb dL_leads_129 rfl (lv_at hl 6 rfl) ?_
    refine c_iV (v := nI st) (P := fun z => z.1 0 = μ.1 0 ∧ Hok z) (⟨est, eg, eok⟩) hw (run_V (As := []) (rest := []) (np := 0) hf hw (k_X7_undo l E _  ((k5.same s11).ok.K)) ⟨gl_V q495 q496 q497 q2 q498, by decide +kernel⟩ ⟨rfl, rfl, Nat.le_of_ble_eq_true rfl, Nat.le_of_ble_eq_true rfl⟩ (by decide) (c_O E _) rfl rfl hl.1 rfl (Nat.le_of_ble_eq_true rfl) dL_leads_130 ⟨Nat.zero_le _, Nat.zero_le _⟩) (fun μ12 H locs s12 hw => ?_)
    obtain ⟨e6, k6⟩ := s12
    have h1c : μ12.1 0 1 = nI N := by rw [e6]; exact h1
    have j1c : μ12.1 0 (sF k 1) = nI (2 + k % 3) := by rw [e6]; exact j1
    refine lv_if_lt (tgt := 164) hx hb dL_leads_133 (by decide) (fun c => absurd c (nI_pos (by omega))) (fun _ => ?_)
    refine lv_aload_n hx hb dL_leads_136 rfl (lv_at hl 6 rfl) ?_
    refine lv_iload_n hx hb dL_leads_137 rfl (lv_at hl 7 rfl) ?_
    refine lv_iconst (v := 5) hx hb dL_leads_138 (by decide) ?_
    refine lv_iload hx hb dL_leads_139 (lv_at hl 3 rfl) ?_
    refine lv_iadd hx hb dL_leads_141 ?_
    refine fold_i (show (5 + nI j : Int32) = nI (5 + j) from nI_add 5 j) ?_
    refine c_iV (v := μ.1 0 (sF k (12 + j))) (P := fun z => Same μ12 z) (⟨(a_sw Same.rf h1c hN hk j1c (by omega) hj).1.trans (by rw [e6]), (a_sw Same.rf h1c hN hk j1c (by omega) hj).2⟩) hw (run_V (As := [.int (nI k), .int (nI (5 + j))]) (rest := []) (np := 2) hf hw (k_X7_sensorOf l E _ (nI k) (nI (5 + j))) ⟨gl_V q199 q200 q201 q2 q202, by decide +kernel⟩ ⟨rfl, rfl, Nat.le_of_ble_eq_true rfl, Nat.le_of_ble_eq_true rfl⟩ (by decide) (c_O E _) rfl rfl hl.1 rfl (Nat.le_of_ble_eq_true rfl) dL_leads_142 ⟨Nat.zero_le _, Nat.zero_le _⟩) (fun μ13 H locs s13 hw => ?_)
    refine lv_iload hx hb dL_leads_145 (lv_at hl 2 rfl) ?_
    refine lv_icmp_ne (tgt := 164) hx hb dL_leads_147 (by decide) (fun c => absurd rfl c) (fun _ => ?_)
    refine lv_aload_n hx hb dL_leads_150 rfl (lv_at hl 6 rfl) ?_
    refine lv_iload_n hx hb dL_leads_151 rfl (lv_at hl 7 rfl) ?_
    refine lv_iconst (v := 5) hx hb dL_leads_152 (by decide) ?_
    refine c_iV (v := (wop (μ.1 0) k).toInt32) (P := fun z => Same μ12 z) (⟨(a_o5 s13 h1c hN hk).1.trans (by rw [e6]), (a_o5 s13 h1c hN hk).2⟩) hw (run_V (As := [.int (nI k), .int 5]) (rest := []) (np := 2) hf hw (k_X7_ohms l E _ (nI k) 5) ⟨gl_V q371 q372 q373 q2 q374, by decide +kernel⟩ ⟨rfl, rfl, Nat.le_of_ble_eq_true rfl, Nat.le_of_ble_eq_true rfl⟩ (by decide) (c_O E _) rfl rfl hl.1 rfl (Nat.le_of_ble_eq_true rfl) dL_leads_153 ⟨Nat.zero_le _, Nat.zero_le _⟩) (fun μ14 H locs s14 hw => ?_)
    refine lv_iload_n hx hb dL_leads_156 rfl (lv_at hl 5 rfl) ?_
    refine lv_icmp_ne (tgt := 164) hx hb dL_leads_157 (by decide) (fun c => absurd rfl c) (fun _ => ?_)
    refine lv_iconst (v := 1) hx hb dL_leads_160 (by decide) ?_
    refine lv_goto (tgt := 165) hx hb dL_leads_161 (by decide) ?_
    exact e_iP hf hr hlocks hw rfl (⟨rfl, s14.g.trans e6, k6.same s14⟩) dL_leads_165
