/-! ===== the law: sensors ===== -/
set_option maxHeartbeats 8000000 in
set_option maxRecDepth 100000 in
theorem k_L_sensors (l : Launch) (E : En) (μ : Mu) {T N B k : Nat} (h : Gd (μ.1 0) T N B) (hk : k < N) : MtP l yL_sensors cL_sensors 8 .boolean ({ frames := 5, cells := 0, slots := 0, locals := 134 }) [.ref (E.1 231), .int (nI k)] E μ (fun r u => r = 1 ∧ Same μ u) := by
  refine mt_of (by decide +kernel) (Nat.le_of_ble_eq_true rfl) ?_
  intro p e s m args below meth c ls hf hr hlocks hl hw
  have hx := hf.1
  have hb := hf.2.1
  have hl : lv_has ls 8 [(0, .ref (E.1 231)), (1, .int (nI k))] := hl
  have hk4 : k < 4 := by have := h.1.2; omega
  have hN : N ≤ 6 := by have := h.1.2; omega
  have hT3 : T ≤ 3 := by have := h.1.1; omega
  have h1 := h.2.1.2
  obtain ⟨⟨t, ht, et⟩, j1, j2, j3, j4, j6, ⟨j7, j8, j9, j10⟩, j11, j16, hsh⟩ := h.2.2.2.2.1 k hk
  have h6 := h.2.2.1.2.2.2
  have hcu := h.2.2.1.2.1
  have ndg : ¬ dgn (μ.1 0) k = 1 := by
    intro q
    rcases dg_c (g := μ.1 0) (k := k) (by rw [j6]; exact pl_ne (by unfold plc; omega)) with z | z | z
    · rw [z.1] at q; exact absurd q (by decide)
    · rw [z] at q; exact absurd q (by decide)
    · rcases z.1 with z | z | z | z | z <;> (rw [z] at q; exact absurd q (by decide))
  obtain ⟨u1, u2, em⟩ := uni_v h6
  have nm : (-((4 : Int32) <<< (μ.1 0 6 &&& 31))).toInt = -(4 * (uni (μ.1 0)).toInt) := by rw [Int32.toInt_neg, em, I_of _ (by omega)]
  have b0 := one_b (k := k) (c := (μ.1 0 4).toInt64) h6
  have b1 := oth_b (k := k) (c := (μ.1 0 4).toInt64) h6
  have k0 : -(4 * (uni (μ.1 0)).toInt) ≤ (one (μ.1 0) k (μ.1 0 4).toInt64).toInt32.toInt ∧ (one (μ.1 0) k (μ.1 0 4).toInt64).toInt32.toInt ≤ 4 * (uni (μ.1 0)).toInt := by rw [Int64.toInt_toInt32, I_of _ (by omega)]; exact b0
  have k1 : -(4 * (uni (μ.1 0)).toInt) ≤ (oth (μ.1 0) k (μ.1 0 4).toInt64).toInt32.toInt ∧ (oth (μ.1 0) k (μ.1 0 4).toInt64).toInt32.toInt ≤ 4 * (uni (μ.1 0)).toInt := by rw [Int64.toInt_toInt32, I_of _ (by omega)]; exact b1
  have k2 := (two_e (k := k) (c := (μ.1 0 4).toInt64) h6).2
  refine lv_aload_n hx hb dL_sensors_0 rfl (lv_at hl 0 rfl) ?_
  refine lv_iload_n hx hb dL_sensors_1 rfl (lv_at hl 1 rfl) ?_
  refine lv_iconst (v := 1) hx hb dL_sensors_2 (by decide) ?_
  refine c_iV (v := nI (2 + k % 3)) (P := fun z => Same μ z) (⟨(a_s1 Same.rf h1 hN hk).1.trans j1, (a_s1 Same.rf h1 hN hk).2⟩) hw (run_V (As := [.int (nI k), .int 1]) (rest := []) (np := 2) hf hw (k_X7_sensorOf l E _ (nI k) 1) ⟨gl_V q199 q200 q201 q2 q202, by decide +kernel⟩ ⟨rfl, rfl, Nat.le_of_ble_eq_true rfl, Nat.le_of_ble_eq_true rfl⟩ (by decide) (c_O E _) rfl rfl hl.1 rfl (Nat.le_of_ble_eq_true rfl) dL_sensors_3 ⟨Nat.zero_le _, Nat.zero_le _⟩) (fun μ1 H locs s1 hw => ?_)
  refine lv_istore_n (lv' := [(2, .int (nI (2 + k % 3))), (0, .ref (E.1 231)), (1, .int (nI k))]) hx hb dL_sensors_6 rfl hl (by decide) rfl (fun ls hl => ?_)
  refine lv_iconst (v := 4) hx hb dL_sensors_7 (by decide) ?_
  refine lv_aload_n hx hb dL_sensors_8 rfl (lv_at hl 1 rfl) ?_
  refine lv_bipush (v := 23) hx hb dL_sensors_9 (by decide) ?_
  refine c_iV (v := μ.1 0 6) (P := fun z => Same μ z) (a_c23 s1) hw (run_V (As := [.int 23]) (rest := [.int 4]) (np := 1) hf hw (k_X7_count l E _ 23) ⟨gl_V q98 q99 q100 q2 q101, by decide +kernel⟩ ⟨rfl, rfl, Nat.le_of_ble_eq_true rfl, Nat.le_of_ble_eq_true rfl⟩ (by decide) (c_O E _) rfl rfl hl.1 rfl (Nat.le_of_ble_eq_true rfl) dL_sensors_11 ⟨Nat.zero_le _, Nat.zero_le _⟩) (fun μ2 H locs s2 hw => ?_)
  refine lv_ishl hx hb dL_sensors_14 ?_
  refine lv_istore_n (lv' := [(3, .int (4 <<< ((μ.1 0 6) &&& 31))), (2, .int (nI (2 + k % 3))), (0, .ref (E.1 231)), (1, .int (nI k))]) hx hb dL_sensors_15 rfl hl (by decide) rfl (fun ls hl => ?_)
  refine lv_aload_n hx hb dL_sensors_16 rfl (lv_at hl 2 rfl) ?_
  refine lv_iload_n hx hb dL_sensors_17 rfl (lv_at hl 3 rfl) ?_
  refine lv_bipush (v := 13) hx hb dL_sensors_18 (by decide) ?_
  refine c_iV (v := nI (k % 3 * 10 + k / 3)) (P := fun z => Same μ z) (a_s13 s2 h hk) hw (run_V (As := [.int (nI k), .int 13]) (rest := []) (np := 2) hf hw (k_X7_sensorOf l E _ (nI k) 13) ⟨gl_V q199 q200 q201 q2 q202, by decide +kernel⟩ ⟨rfl, rfl, Nat.le_of_ble_eq_true rfl, Nat.le_of_ble_eq_true rfl⟩ (by decide) (c_O E _) rfl rfl hl.1 rfl (Nat.le_of_ble_eq_true rfl) dL_sensors_20 ⟨Nat.zero_le _, Nat.zero_le _⟩) (fun μ3 H locs s3 hw => ?_)
  refine lv_istore (lv' := [(4, .int (nI (k % 3 * 10 + k / 3))), (3, .int (4 <<< ((μ.1 0 6) &&& 31))), (2, .int (nI (2 + k % 3))), (0, .ref (E.1 231)), (1, .int (nI k))]) hx hb dL_sensors_23 hl (by decide) rfl (fun ls hl => ?_)
  refine lv_iload hx hb dL_sensors_25 (lv_at hl 0 rfl) ?_
  refine lv_ldc hx hb hf.2.2.2.1 (hf.2.2.2.2 _ q10) dL_sensors_27 ?_
  refine lv_icmp_ne (tgt := 36) hx hb dL_sensors_29 (by decide) (fun _ => ?_) (fun c => absurd c (fun q => by have := congrArg Int32.toInt q; rw [nI_toInt (by omega), show (-2000000004 : Int32).toInt = -2000000004 by decide] at this; omega))
  refine lv_iconst (v := 0) hx hb dL_sensors_36 (by decide) ?_
  refine lv_aload_n hx hb dL_sensors_37 rfl (lv_at hl 3 rfl) ?_
  refine lv_iload_n hx hb dL_sensors_38 rfl (lv_at hl 4 rfl) ?_
  refine c_iV (v := dgn (μ.1 0) k) (P := fun z => Same μ z) (a_dg s3 h1 hN hk) hw (run_V (As := [.int (nI k)]) (rest := [.int 0]) (np := 1) hf hw (k_X7_diagnosis l E _ (nI k)) ⟨gl_V q245 q246 q247 q2 q248, by decide +kernel⟩ ⟨rfl, rfl, Nat.le_of_ble_eq_true rfl, Nat.le_of_ble_eq_true rfl⟩ (by decide) (c_O E _) rfl rfl hl.1 rfl (Nat.le_of_ble_eq_true rfl) dL_sensors_39 ⟨Nat.zero_le _, Nat.zero_le _⟩) (fun μ4 H locs s4 hw => ?_)
  refine lv_iconst (v := 1) hx hb dL_sensors_42 (by decide) ?_
  refine lv_icmp_ne (tgt := 50) hx hb dL_sensors_43 (by decide) (fun _ => ?_) (fun c => absurd c ndg)
  refine lv_iconst (v := 0) hx hb dL_sensors_50 (by decide) ?_
  refine lv_icmp_ne (tgt := 101) hx hb dL_sensors_51 (by decide) (fun c => absurd (by decide) c) (fun _ => ?_)
  refine lv_iload hx hb dL_sensors_54 (lv_at hl 0 rfl) ?_
  refine lv_if_lt (tgt := 97) hx hb dL_sensors_56 (by decide) (fun c => absurd c (nI_pos (by omega))) (fun _ => ?_)
  refine lv_aload_n hx hb dL_sensors_59 rfl (lv_at hl 3 rfl) ?_
  refine lv_iload hx hb dL_sensors_60 (lv_at hl 0 rfl) ?_
  refine lv_bipush (v := 10) hx hb dL_sensors_62 (by decide) ?_
  refine lv_idiv hx hb dL_sensors_64 (by decide) ?_
  refine fold_i (show (nI (k % 3 * 10 + k / 3)) / 10 = nI (k % 3) from (pk_div (a := k % 3 * 10 + k / 3) (d := 10) (by omega) (by decide) (by decide)).trans (congrArg nI (by omega))) ?_
  refine lv_iload hx hb dL_sensors_65 (lv_at hl 0 rfl) ?_
  refine lv_bipush (v := 10) hx hb dL_sensors_67 (by decide) ?_
  refine lv_irem hx hb dL_sensors_69 (by decide) ?_
  refine fold_i (show (nI (k % 3 * 10 + k / 3)) - (nI (k % 3 * 10 + k / 3)) / 10 * 10 = nI (k / 3) from (pk_rem (a := k % 3 * 10 + k / 3) (d := 10) (by omega) (by decide) (by decide)).trans (congrArg nI (by omega))) ?_
  refine c_iV (v := nI k) (P := fun z => Same μ z) (a_sl s4 h hk) hw (run_V (As := [.int (nI (k % 3)), .int (nI (k / 3))]) (rest := []) (np := 2) hf hw (k_X7_slotAt l E _ (nI (k % 3)) (nI (k / 3))) ⟨gl_V q349 q350 q351 q2 q352, by decide +kernel⟩ ⟨rfl, rfl, Nat.le_of_ble_eq_true rfl, Nat.le_of_ble_eq_true rfl⟩ (by decide) (c_O E _) rfl rfl hl.1 rfl (Nat.le_of_ble_eq_true rfl) dL_sensors_70 ⟨Nat.zero_le _, Nat.zero_le _⟩) (fun μ5 H locs s5 hw => ?_)
  refine lv_iload_n hx hb dL_sensors_73 rfl (lv_at hl 4 rfl) ?_
  refine lv_icmp_ne (tgt := 101) hx hb dL_sensors_74 (by decide) (fun c => absurd rfl c) (fun _ => ?_)
  refine lv_iload hx hb dL_sensors_77 (lv_at hl 0 rfl) ?_
  refine lv_bipush (v := 10) hx hb dL_sensors_79 (by decide) ?_
  refine lv_idiv hx hb dL_sensors_81 (by decide) ?_
  refine fold_i (show (nI (k % 3 * 10 + k / 3)) / 10 = nI (k % 3) from (pk_div (a := k % 3 * 10 + k / 3) (d := 10) (by omega) (by decide) (by decide)).trans (congrArg nI (by omega))) ?_
  refine lv_iconst (v := 3) hx hb dL_sensors_82 (by decide) ?_
  refine lv_icmp_eq (tgt := 97) hx hb dL_sensors_83 (by decide) (fun c => absurd c (fun q => by have := (nI_eq (a := k % 3) (b := 3) (by omega) (by omega)).mp q; omega)) (fun _ => ?_)
  refine lv_iload hx hb dL_sensors_86 (lv_at hl 0 rfl) ?_
  refine lv_bipush (v := 10) hx hb dL_sensors_88 (by decide) ?_
  refine lv_idiv hx hb dL_sensors_90 (by decide) ?_
  refine fold_i (show (nI (k % 3 * 10 + k / 3)) / 10 = nI (k % 3) from (pk_div (a := k % 3 * 10 + k / 3) (d := 10) (by omega) (by decide) (by decide)).trans (congrArg nI (by omega))) ?_
  refine lv_iconst (v := 2) hx hb dL_sensors_91 (by decide) ?_
  refine lv_iadd hx hb dL_sensors_92 ?_
  refine fold_i (show (nI (k % 3) + 2 : Int32) = nI (k % 3 + 2) from nI_add (k % 3) 2) ?_
  refine lv_iload_n hx hb dL_sensors_93 rfl (lv_at hl 2 rfl) ?_
  refine lv_icmp_ne (tgt := 101) hx hb dL_sensors_94 (by decide) (fun c => absurd (congrArg nI (by omega)) c) (fun _ => ?_)
  refine lv_iconst (v := 1) hx hb dL_sensors_97 (by decide) ?_
  refine lv_goto (tgt := 102) hx hb dL_sensors_98 (by decide) ?_
  refine lv_istore (lv' := [(5, .int 1), (4, .int (nI (k % 3 * 10 + k / 3))), (3, .int (4 <<< ((μ.1 0 6) &&& 31))), (2, .int (nI (2 + k % 3))), (0, .ref (E.1 231)), (1, .int (nI k))]) hx hb dL_sensors_102 hl (by decide) rfl (fun ls hl => ?_)
  refine lv_iconst (v := 0) hx hb dL_sensors_104 (by decide) ?_
  refine lv_istore (lv' := [(6, .int 0), (5, .int 1), (4, .int (nI (k % 3 * 10 + k / 3))), (3, .int (4 <<< ((μ.1 0 6) &&& 31))), (2, .int (nI (2 + k % 3))), (0, .ref (E.1 231)), (1, .int (nI k))]) hx hb dL_sensors_105 hl (by decide) rfl (fun ls hl => ?_)
  refine lv_iload hx hb dL_sensors_107 (lv_at hl 0 rfl) ?_
  refine lv_iconst (v := 3) hx hb dL_sensors_109 (by decide) ?_
  refine lv_icmp_ge (tgt := 160) hx hb dL_sensors_110 (by decide) (fun c => absurd c (by decide)) (fun _ => ?_)
  refine lv_iload hx hb dL_sensors_113 (lv_at hl 1 rfl) ?_
  refine lv_if_eq (tgt := 160) hx hb dL_sensors_115 (by decide) (fun c => absurd c (by decide)) (fun _ => ?_)
  refine lv_aload_n hx hb dL_sensors_118 rfl (lv_at hl 5 rfl) ?_
  refine lv_iload_n hx hb dL_sensors_119 rfl (lv_at hl 6 rfl) ?_
  refine lv_aload_n hx hb dL_sensors_120 rfl (lv_at hl 5 rfl) ?_
  refine lv_bipush (v := 21) hx hb dL_sensors_121 (by decide) ?_
  refine c_iV (v := μ.1 0 4) (P := fun z => Same μ z) (a_c21 s5) hw (run_V (As := [.int 21]) (rest := [.int (nI k), .ref (E.1 231)]) (np := 1) hf hw (k_X7_count l E _ 21) ⟨gl_V q98 q99 q100 q2 q101, by decide +kernel⟩ ⟨rfl, rfl, Nat.le_of_ble_eq_true rfl, Nat.le_of_ble_eq_true rfl⟩ (by decide) (c_O E _) rfl rfl hl.1 rfl (Nat.le_of_ble_eq_true rfl) dL_sensors_123 ⟨Nat.zero_le _, Nat.zero_le _⟩) (fun μ6 H locs s6 hw => ?_)
  refine lv_iconst (v := 0) hx hb dL_sensors_126 (by decide) ?_
  refine lv_iload hx hb dL_sensors_127 (lv_at hl 0 rfl) ?_
  refine c_iV (v := (one (μ.1 0) k (μ.1 0 4).toInt64).toInt32) (P := fun z => Same μ z) (a_k0 (a := μ.1 0 4) s6 h1 hN hk hcu) hw (run_V (As := [.int (nI k), .int (μ.1 0 4), .int 0, .int 0]) (rest := []) (np := 4) hf hw (k_X7_counts l E _ (nI k) (μ.1 0 4) 0 0) ⟨gl_V q359 q360 q361 q2 q362, by decide +kernel⟩ ⟨rfl, rfl, Nat.le_of_ble_eq_true rfl, Nat.le_of_ble_eq_true rfl⟩ (by decide) (c_O E _) rfl rfl hl.1 rfl (Nat.le_of_ble_eq_true rfl) dL_sensors_129 ⟨Nat.zero_le _, Nat.zero_le _⟩) (fun μ7 H locs s7 hw => ?_)
  refine lv_istore (lv' := [(7, .int ((one (μ.1 0) k (μ.1 0 4).toInt64).toInt32)), (6, .int 0), (5, .int 1), (4, .int (nI (k % 3 * 10 + k / 3))), (3, .int (4 <<< ((μ.1 0 6) &&& 31))), (2, .int (nI (2 + k % 3))), (0, .ref (E.1 231)), (1, .int (nI k))]) hx hb dL_sensors_132 hl (by decide) rfl (fun ls hl => ?_)
  refine lv_iload hx hb dL_sensors_134 (lv_at hl 0 rfl) ?_
  refine lv_iload_n hx hb dL_sensors_136 rfl (lv_at hl 4 rfl) ?_
  refine lv_icmp_gt (tgt := 151) hx hb dL_sensors_137 (by decide) (fun c => absurd c (by rw [Int32.lt_iff_toInt_lt, em]; exact Int.not_lt.mpr k0.2)) (fun _ => ?_)
  refine lv_iload hx hb dL_sensors_140 (lv_at hl 0 rfl) ?_
  refine lv_iload_n hx hb dL_sensors_142 rfl (lv_at hl 4 rfl) ?_
  refine lv_ineg hx hb dL_sensors_143 ?_
  refine lv_icmp_lt (tgt := 151) hx hb dL_sensors_144 (by decide) (fun c => absurd c (by rw [Int32.lt_iff_toInt_lt, nm]; exact Int.not_lt.mpr k0.1)) (fun _ => ?_)
  refine lv_iconst (v := 1) hx hb dL_sensors_147 (by decide) ?_
  refine lv_goto (tgt := 152) hx hb dL_sensors_148 (by decide) ?_
  refine lv_istore (lv' := [(5, .int 1), (7, .int ((one (μ.1 0) k (μ.1 0 4).toInt64).toInt32)), (6, .int 0), (4, .int (nI (k % 3 * 10 + k / 3))), (3, .int (4 <<< ((μ.1 0 6) &&& 31))), (2, .int (nI (2 + k % 3))), (0, .ref (E.1 231)), (1, .int (nI k))]) hx hb dL_sensors_152 hl (by decide) rfl (fun ls hl => ?_)
  refine lv_iinc (v := 1) (lv' := [(6, .int 1), (5, .int 1), (7, .int ((one (μ.1 0) k (μ.1 0 4).toInt64).toInt32)), (4, .int (nI (k % 3 * 10 + k / 3))), (3, .int (4 <<< ((μ.1 0 6) &&& 31))), (2, .int (nI (2 + k % 3))), (0, .ref (E.1 231)), (1, .int (nI k))]) hx hb dL_sensors_154 hl (k := 2) rfl (by decide) (by decide) rfl (fun ls hl => ?_)
  refine lv_goto (tgt := 107) hx hb dL_sensors_157 (by decide) ?_
  refine lv_iload hx hb dL_sensors_107 (lv_at hl 0 rfl) ?_
  refine lv_iconst (v := 3) hx hb dL_sensors_109 (by decide) ?_
  refine lv_icmp_ge (tgt := 160) hx hb dL_sensors_110 (by decide) (fun c => absurd c (by decide)) (fun _ => ?_)
  refine lv_iload hx hb dL_sensors_113 (lv_at hl 1 rfl) ?_
  refine lv_if_eq (tgt := 160) hx hb dL_sensors_115 (by decide) (fun c => absurd c (by decide)) (fun _ => ?_)
  refine lv_aload_n hx hb dL_sensors_118 rfl (lv_at hl 6 rfl) ?_
  refine lv_iload_n hx hb dL_sensors_119 rfl (lv_at hl 7 rfl) ?_
  refine lv_aload_n hx hb dL_sensors_120 rfl (lv_at hl 6 rfl) ?_
  refine lv_bipush (v := 21) hx hb dL_sensors_121 (by decide) ?_
  refine c_iV (v := μ.1 0 4) (P := fun z => Same μ z) (a_c21 s7) hw (run_V (As := [.int 21]) (rest := [.int (nI k), .ref (E.1 231)]) (np := 1) hf hw (k_X7_count l E _ 21) ⟨gl_V q98 q99 q100 q2 q101, by decide +kernel⟩ ⟨rfl, rfl, Nat.le_of_ble_eq_true rfl, Nat.le_of_ble_eq_true rfl⟩ (by decide) (c_O E _) rfl rfl hl.1 rfl (Nat.le_of_ble_eq_true rfl) dL_sensors_123 ⟨Nat.zero_le _, Nat.zero_le _⟩) (fun μ8 H locs s8 hw => ?_)
  refine lv_iconst (v := 0) hx hb dL_sensors_126 (by decide) ?_
  refine lv_iload hx hb dL_sensors_127 (lv_at hl 0 rfl) ?_
  refine c_iV (v := (oth (μ.1 0) k (μ.1 0 4).toInt64).toInt32) (P := fun z => Same μ z) (a_k1 (a := μ.1 0 4) s8 h1 hN hk hcu) hw (run_V (As := [.int (nI k), .int (μ.1 0 4), .int 0, .int 1]) (rest := []) (np := 4) hf hw (k_X7_counts l E _ (nI k) (μ.1 0 4) 0 1) ⟨gl_V q359 q360 q361 q2 q362, by decide +kernel⟩ ⟨rfl, rfl, Nat.le_of_ble_eq_true rfl, Nat.le_of_ble_eq_true rfl⟩ (by decide) (c_O E _) rfl rfl hl.1 rfl (Nat.le_of_ble_eq_true rfl) dL_sensors_129 ⟨Nat.zero_le _, Nat.zero_le _⟩) (fun μ9 H locs s9 hw => ?_)
  refine lv_istore (lv' := [(7, .int ((oth (μ.1 0) k (μ.1 0 4).toInt64).toInt32)), (6, .int 1), (5, .int 1), (4, .int (nI (k % 3 * 10 + k / 3))), (3, .int (4 <<< ((μ.1 0 6) &&& 31))), (2, .int (nI (2 + k % 3))), (0, .ref (E.1 231)), (1, .int (nI k))]) hx hb dL_sensors_132 hl (by decide) rfl (fun ls hl => ?_)
  refine lv_iload hx hb dL_sensors_134 (lv_at hl 0 rfl) ?_
  refine lv_iload_n hx hb dL_sensors_136 rfl (lv_at hl 4 rfl) ?_
  refine lv_icmp_gt (tgt := 151) hx hb dL_sensors_137 (by decide) (fun c => absurd c (by rw [Int32.lt_iff_toInt_lt, em]; exact Int.not_lt.mpr k1.2)) (fun _ => ?_)
  refine lv_iload hx hb dL_sensors_140 (lv_at hl 0 rfl) ?_
  refine lv_iload_n hx hb dL_sensors_142 rfl (lv_at hl 4 rfl) ?_
  refine lv_ineg hx hb dL_sensors_143 ?_
  refine lv_icmp_lt (tgt := 151) hx hb dL_sensors_144 (by decide) (fun c => absurd c (by rw [Int32.lt_iff_toInt_lt, nm]; exact Int.not_lt.mpr k1.1)) (fun _ => ?_)
  refine lv_iconst (v := 1) hx hb dL_sensors_147 (by decide) ?_
  refine lv_goto (tgt := 152) hx hb dL_sensors_148 (by decide) ?_
  refine lv_istore (lv' := [(5, .int 1), (7, .int ((oth (μ.1 0) k (μ.1 0 4).toInt64).toInt32)), (6, .int 1), (4, .int (nI (k % 3 * 10 + k / 3))), (3, .int (4 <<< ((μ.1 0 6) &&& 31))), (2, .int (nI (2 + k % 3))), (0, .ref (E.1 231)), (1, .int (nI k))]) hx hb dL_sensors_152 hl (by decide) rfl (fun ls hl => ?_)
  refine lv_iinc (v := 2) (lv' := [(6, .int 2), (5, .int 1), (7, .int ((oth (μ.1 0) k (μ.1 0 4).toInt64).toInt32)), (4, .int (nI (k % 3 * 10 + k / 3))), (3, .int (4 <<< ((μ.1 0 6) &&& 31))), (2, .int (nI (2 + k % 3))), (0, .ref (E.1 231)), (1, .int (nI k))]) hx hb dL_sensors_154 hl (k := 2) rfl (by decide) (by decide) rfl (fun ls hl => ?_)
  refine lv_goto (tgt := 107) hx hb dL_sensors_157 (by decide) ?_
  refine lv_iload hx hb dL_sensors_107 (lv_at hl 0 rfl) ?_
  refine lv_iconst (v := 3) hx hb dL_sensors_109 (by decide) ?_
  refine lv_icmp_ge (tgt := 160) hx hb dL_sensors_110 (by decide) (fun c => absurd c (by decide)) (fun _ => ?_)
  refine lv_iload hx hb dL_sensors_113 (lv_at hl 1 rfl) ?_
  refine lv_if_eq (tgt := 160) hx hb dL_sensors_115 (by decide) (fun c => absurd c (by decide)) (fun _ => ?_)
  refine lv_aload_n hx hb dL_sensors_118 rfl (lv_at hl 6 rfl) ?_
  refine lv_iload_n hx hb dL_sensors_119 rfl (lv_at hl 7 rfl) ?_
  refine lv_aload_n hx hb dL_sensors_120 rfl (lv_at hl 6 rfl) ?_
  refine lv_bipush (v := 21) hx hb dL_sensors_121 (by decide) ?_
  refine c_iV (v := μ.1 0 4) (P := fun z => Same μ z) (a_c21 s9) hw (run_V (As := [.int 21]) (rest := [.int (nI k), .ref (E.1 231)]) (np := 1) hf hw (k_X7_count l E _ 21) ⟨gl_V q98 q99 q100 q2 q101, by decide +kernel⟩ ⟨rfl, rfl, Nat.le_of_ble_eq_true rfl, Nat.le_of_ble_eq_true rfl⟩ (by decide) (c_O E _) rfl rfl hl.1 rfl (Nat.le_of_ble_eq_true rfl) dL_sensors_123 ⟨Nat.zero_le _, Nat.zero_le _⟩) (fun μ10 H locs s10 hw => ?_)
  refine lv_iconst (v := 0) hx hb dL_sensors_126 (by decide) ?_
  refine lv_iload hx hb dL_sensors_127 (lv_at hl 0 rfl) ?_
  refine c_iV (v := ((one (μ.1 0) k (μ.1 0 4).toInt64 - oth (μ.1 0) k (μ.1 0 4).toInt64) / 2).toInt32) (P := fun z => Same μ z) (a_k2 (a := μ.1 0 4) s10 h1 hN hk hcu) hw (run_V (As := [.int (nI k), .int (μ.1 0 4), .int 0, .int 2]) (rest := []) (np := 4) hf hw (k_X7_counts l E _ (nI k) (μ.1 0 4) 0 2) ⟨gl_V q359 q360 q361 q2 q362, by decide +kernel⟩ ⟨rfl, rfl, Nat.le_of_ble_eq_true rfl, Nat.le_of_ble_eq_true rfl⟩ (by decide) (c_O E _) rfl rfl hl.1 rfl (Nat.le_of_ble_eq_true rfl) dL_sensors_129 ⟨Nat.zero_le _, Nat.zero_le _⟩) (fun μ11 H locs s11 hw => ?_)
  refine lv_istore (lv' := [(7, .int (((one (μ.1 0) k (μ.1 0 4).toInt64 - oth (μ.1 0) k (μ.1 0 4).toInt64) / 2).toInt32)), (6, .int 2), (5, .int 1), (4, .int (nI (k % 3 * 10 + k / 3))), (3, .int (4 <<< ((μ.1 0 6) &&& 31))), (2, .int (nI (2 + k % 3))), (0, .ref (E.1 231)), (1, .int (nI k))]) hx hb dL_sensors_132 hl (by decide) rfl (fun ls hl => ?_)
  refine lv_iload hx hb dL_sensors_134 (lv_at hl 0 rfl) ?_
  refine lv_iload_n hx hb dL_sensors_136 rfl (lv_at hl 4 rfl) ?_
  refine lv_icmp_gt (tgt := 151) hx hb dL_sensors_137 (by decide) (fun c => absurd c (by rw [Int32.lt_iff_toInt_lt, em]; exact Int.not_lt.mpr k2.2)) (fun _ => ?_)
  refine lv_iload hx hb dL_sensors_140 (lv_at hl 0 rfl) ?_
  refine lv_iload_n hx hb dL_sensors_142 rfl (lv_at hl 4 rfl) ?_
  refine lv_ineg hx hb dL_sensors_143 ?_
  refine lv_icmp_lt (tgt := 151) hx hb dL_sensors_144 (by decide) (fun c => absurd c (by rw [Int32.lt_iff_toInt_lt, nm]; exact Int.not_lt.mpr k2.1)) (fun _ => ?_)
  refine lv_iconst (v := 1) hx hb dL_sensors_147 (by decide) ?_
  refine lv_goto (tgt := 152) hx hb dL_sensors_148 (by decide) ?_
  refine lv_istore (lv' := [(5, .int 1), (7, .int (((one (μ.1 0) k (μ.1 0 4).toInt64 - oth (μ.1 0) k (μ.1 0 4).toInt64) / 2).toInt32)), (6, .int 2), (4, .int (nI (k % 3 * 10 + k / 3))), (3, .int (4 <<< ((μ.1 0 6) &&& 31))), (2, .int (nI (2 + k % 3))), (0, .ref (E.1 231)), (1, .int (nI k))]) hx hb dL_sensors_152 hl (by decide) rfl (fun ls hl => ?_)
  refine lv_iinc (v := 3) (lv' := [(6, .int 3), (5, .int 1), (7, .int (((one (μ.1 0) k (μ.1 0 4).toInt64 - oth (μ.1 0) k (μ.1 0 4).toInt64) / 2).toInt32)), (4, .int (nI (k % 3 * 10 + k / 3))), (3, .int (4 <<< ((μ.1 0 6) &&& 31))), (2, .int (nI (2 + k % 3))), (0, .ref (E.1 231)), (1, .int (nI k))]) hx hb dL_sensors_154 hl (k := 2) rfl (by decide) (by decide) rfl (fun ls hl => ?_)
  refine lv_goto (tgt := 107) hx hb dL_sensors_157 (by decide) ?_
  refine lv_iload hx hb dL_sensors_107 (lv_at hl 0 rfl) ?_
  refine lv_iconst (v := 3) hx hb dL_sensors_109 (by decide) ?_
  refine lv_icmp_ge (tgt := 160) hx hb dL_sensors_110 (by decide) (fun _ => ?_) (fun c => absurd (by decide) c)
  refine lv_aload_n hx hb dL_sensors_160 rfl (lv_at hl 6 rfl) ?_
  refine lv_iload_n hx hb dL_sensors_161 rfl (lv_at hl 7 rfl) ?_
  refine lv_aload_n hx hb dL_sensors_162 rfl (lv_at hl 6 rfl) ?_
  refine lv_bipush (v := 21) hx hb dL_sensors_163 (by decide) ?_
  refine c_iV (v := μ.1 0 4) (P := fun z => Same μ z) (a_c21 s11) hw (run_V (As := [.int 21]) (rest := [.int (nI k), .ref (E.1 231)]) (np := 1) hf hw (k_X7_count l E _ 21) ⟨gl_V q98 q99 q100 q2 q101, by decide +kernel⟩ ⟨rfl, rfl, Nat.le_of_ble_eq_true rfl, Nat.le_of_ble_eq_true rfl⟩ (by decide) (c_O E _) rfl rfl hl.1 rfl (Nat.le_of_ble_eq_true rfl) dL_sensors_165 ⟨Nat.zero_le _, Nat.zero_le _⟩) (fun μ12 H locs s12 hw => ?_)
  refine lv_iconst (v := 0) hx hb dL_sensors_168 (by decide) ?_
  refine lv_iconst (v := 0) hx hb dL_sensors_169 (by decide) ?_
  refine c_iV (v := (one (μ.1 0) k (μ.1 0 4).toInt64).toInt32) (P := fun z => Same μ z) (a_k0 (a := μ.1 0 4) s12 h1 hN hk hcu) hw (run_V (As := [.int (nI k), .int (μ.1 0 4), .int 0, .int 0]) (rest := []) (np := 4) hf hw (k_X7_counts l E _ (nI k) (μ.1 0 4) 0 0) ⟨gl_V q359 q360 q361 q2 q362, by decide +kernel⟩ ⟨rfl, rfl, Nat.le_of_ble_eq_true rfl, Nat.le_of_ble_eq_true rfl⟩ (by decide) (c_O E _) rfl rfl hl.1 rfl (Nat.le_of_ble_eq_true rfl) dL_sensors_170 ⟨Nat.zero_le _, Nat.zero_le _⟩) (fun μ13 H locs s13 hw => ?_)
  refine lv_istore (lv' := [(6, .int ((one (μ.1 0) k (μ.1 0 4).toInt64).toInt32)), (5, .int 1), (7, .int (((one (μ.1 0) k (μ.1 0 4).toInt64 - oth (μ.1 0) k (μ.1 0 4).toInt64) / 2).toInt32)), (4, .int (nI (k % 3 * 10 + k / 3))), (3, .int (4 <<< ((μ.1 0 6) &&& 31))), (2, .int (nI (2 + k % 3))), (0, .ref (E.1 231)), (1, .int (nI k))]) hx hb dL_sensors_173 hl (by decide) rfl (fun ls hl => ?_)
  refine lv_aload_n hx hb dL_sensors_175 rfl (lv_at hl 6 rfl) ?_
  refine lv_iload_n hx hb dL_sensors_176 rfl (lv_at hl 7 rfl) ?_
  refine lv_aload_n hx hb dL_sensors_177 rfl (lv_at hl 6 rfl) ?_
  refine lv_bipush (v := 21) hx hb dL_sensors_178 (by decide) ?_
  refine c_iV (v := μ.1 0 4) (P := fun z => Same μ z) (a_c21 s13) hw (run_V (As := [.int 21]) (rest := [.int (nI k), .ref (E.1 231)]) (np := 1) hf hw (k_X7_count l E _ 21) ⟨gl_V q98 q99 q100 q2 q101, by decide +kernel⟩ ⟨rfl, rfl, Nat.le_of_ble_eq_true rfl, Nat.le_of_ble_eq_true rfl⟩ (by decide) (c_O E _) rfl rfl hl.1 rfl (Nat.le_of_ble_eq_true rfl) dL_sensors_180 ⟨Nat.zero_le _, Nat.zero_le _⟩) (fun μ14 H locs s14 hw => ?_)
  refine lv_iconst (v := 0) hx hb dL_sensors_183 (by decide) ?_
  refine lv_iconst (v := 1) hx hb dL_sensors_184 (by decide) ?_
  refine c_iV (v := (oth (μ.1 0) k (μ.1 0 4).toInt64).toInt32) (P := fun z => Same μ z) (a_k1 (a := μ.1 0 4) s14 h1 hN hk hcu) hw (run_V (As := [.int (nI k), .int (μ.1 0 4), .int 0, .int 1]) (rest := []) (np := 4) hf hw (k_X7_counts l E _ (nI k) (μ.1 0 4) 0 1) ⟨gl_V q359 q360 q361 q2 q362, by decide +kernel⟩ ⟨rfl, rfl, Nat.le_of_ble_eq_true rfl, Nat.le_of_ble_eq_true rfl⟩ (by decide) (c_O E _) rfl rfl hl.1 rfl (Nat.le_of_ble_eq_true rfl) dL_sensors_185 ⟨Nat.zero_le _, Nat.zero_le _⟩) (fun μ15 H locs s15 hw => ?_)
  refine lv_istore (lv' := [(7, .int ((oth (μ.1 0) k (μ.1 0 4).toInt64).toInt32)), (6, .int ((one (μ.1 0) k (μ.1 0 4).toInt64).toInt32)), (5, .int 1), (4, .int (nI (k % 3 * 10 + k / 3))), (3, .int (4 <<< ((μ.1 0 6) &&& 31))), (2, .int (nI (2 + k % 3))), (0, .ref (E.1 231)), (1, .int (nI k))]) hx hb dL_sensors_188 hl (by decide) rfl (fun ls hl => ?_)
  refine lv_iload hx hb dL_sensors_190 (lv_at hl 2 rfl) ?_
  refine lv_if_eq (tgt := 261) hx hb dL_sensors_192 (by decide) (fun c => absurd c (by decide)) (fun _ => ?_)
  refine lv_aload_n hx hb dL_sensors_195 rfl (lv_at hl 6 rfl) ?_
  refine lv_iload_n hx hb dL_sensors_196 rfl (lv_at hl 7 rfl) ?_
  refine lv_aload_n hx hb dL_sensors_197 rfl (lv_at hl 6 rfl) ?_
  refine lv_bipush (v := 21) hx hb dL_sensors_198 (by decide) ?_
  refine c_iV (v := μ.1 0 4) (P := fun z => Same μ z) (a_c21 s15) hw (run_V (As := [.int 21]) (rest := [.int (nI k), .ref (E.1 231)]) (np := 1) hf hw (k_X7_count l E _ 21) ⟨gl_V q98 q99 q100 q2 q101, by decide +kernel⟩ ⟨rfl, rfl, Nat.le_of_ble_eq_true rfl, Nat.le_of_ble_eq_true rfl⟩ (by decide) (c_O E _) rfl rfl hl.1 rfl (Nat.le_of_ble_eq_true rfl) dL_sensors_200 ⟨Nat.zero_le _, Nat.zero_le _⟩) (fun μ16 H locs s16 hw => ?_)
  refine lv_iconst (v := 0) hx hb dL_sensors_203 (by decide) ?_
  refine lv_iconst (v := 2) hx hb dL_sensors_204 (by decide) ?_
  refine c_iV (v := ((one (μ.1 0) k (μ.1 0 4).toInt64 - oth (μ.1 0) k (μ.1 0 4).toInt64) / 2).toInt32) (P := fun z => Same μ z) (a_k2 (a := μ.1 0 4) s16 h1 hN hk hcu) hw (run_V (As := [.int (nI k), .int (μ.1 0 4), .int 0, .int 2]) (rest := []) (np := 4) hf hw (k_X7_counts l E _ (nI k) (μ.1 0 4) 0 2) ⟨gl_V q359 q360 q361 q2 q362, by decide +kernel⟩ ⟨rfl, rfl, Nat.le_of_ble_eq_true rfl, Nat.le_of_ble_eq_true rfl⟩ (by decide) (c_O E _) rfl rfl hl.1 rfl (Nat.le_of_ble_eq_true rfl) dL_sensors_205 ⟨Nat.zero_le _, Nat.zero_le _⟩) (fun μ17 H locs s17 hw => ?_)
  refine lv_iload hx hb dL_sensors_208 (lv_at hl 1 rfl) ?_
  refine lv_iload hx hb dL_sensors_210 (lv_at hl 0 rfl) ?_
  refine lv_isub hx hb dL_sensors_212 ?_
  refine lv_iconst (v := 2) hx hb dL_sensors_213 (by decide) ?_
  refine lv_idiv hx hb dL_sensors_214 (by decide) ?_
  refine lv_icmp_ne (tgt := 261) hx hb dL_sensors_215 (by decide) (fun c => absurd (two_e h6).1 c) (fun _ => ?_)
  refine lv_aload_n hx hb dL_sensors_218 rfl (lv_at hl 6 rfl) ?_
  refine lv_iload_n hx hb dL_sensors_219 rfl (lv_at hl 7 rfl) ?_
  refine lv_bipush (v := 11) hx hb dL_sensors_220 (by decide) ?_
  refine c_iV (v := μ.1 0 (sF k 18)) (P := fun z => Same μ z) (a_s11 s17 h1 hN hk) hw (run_V (As := [.int (nI k), .int 11]) (rest := []) (np := 2) hf hw (k_X7_sensorOf l E _ (nI k) 11) ⟨gl_V q199 q200 q201 q2 q202, by decide +kernel⟩ ⟨rfl, rfl, Nat.le_of_ble_eq_true rfl, Nat.le_of_ble_eq_true rfl⟩ (by decide) (c_O E _) rfl rfl hl.1 rfl (Nat.le_of_ble_eq_true rfl) dL_sensors_222 ⟨Nat.zero_le _, Nat.zero_le _⟩) (fun μ18 H locs s18 hw => ?_)
  refine lv_if_eq (tgt := 237) hx hb dL_sensors_225 (by decide) (fun z1 => ?_) (fun z1 => ?_)
  · refine lv_iload_n hx hb dL_sensors_237 rfl (lv_at hl 5 rfl) ?_
    refine lv_iconst (v := 3) hx hb dL_sensors_238 (by decide) ?_
    refine lv_icmp_eq (tgt := 257) hx hb dL_sensors_239 (by decide) (fun z2 => ?_) (fun z2 => ?_)
    · refine lv_iconst (v := 1) hx hb dL_sensors_257 (by decide) ?_
      refine lv_goto (tgt := 262) hx hb dL_sensors_258 (by decide) ?_
      refine lv_istore (lv' := [(5, .int 1), (7, .int ((oth (μ.1 0) k (μ.1 0 4).toInt64).toInt32)), (6, .int ((one (μ.1 0) k (μ.1 0 4).toInt64).toInt32)), (4, .int (nI (k % 3 * 10 + k / 3))), (3, .int (4 <<< ((μ.1 0 6) &&& 31))), (2, .int (nI (2 + k % 3))), (0, .ref (E.1 231)), (1, .int (nI k))]) hx hb dL_sensors_262 hl (by decide) rfl (fun ls hl => ?_)
      refine lv_iload hx hb dL_sensors_264 (lv_at hl 0 rfl) ?_
      refine lv_if_eq (tgt := 366) hx hb dL_sensors_266 (by decide) (fun c => absurd c (by decide)) (fun _ => ?_)
      refine lv_aload_n hx hb dL_sensors_269 rfl (lv_at hl 6 rfl) ?_
      refine lv_bipush (v := 21) hx hb dL_sensors_270 (by decide) ?_
      refine c_iV (v := μ.1 0 4) (P := fun z => Same μ z) (a_c21 s18) hw (run_V (As := [.int 21]) (rest := []) (np := 1) hf hw (k_X7_count l E _ 21) ⟨gl_V q98 q99 q100 q2 q101, by decide +kernel⟩ ⟨rfl, rfl, Nat.le_of_ble_eq_true rfl, Nat.le_of_ble_eq_true rfl⟩ (by decide) (c_O E _) rfl rfl hl.1 rfl (Nat.le_of_ble_eq_true rfl) dL_sensors_272 ⟨Nat.zero_le _, Nat.zero_le _⟩) (fun μ19 H locs s19 hw => ?_)
      refine lv_aload_n hx hb dL_sensors_275 rfl (lv_at hl 6 rfl) ?_
      refine lv_bipush (v := 22) hx hb dL_sensors_276 (by decide) ?_
      refine c_iV (v := μ.1 0 5) (P := fun z => Same μ z) (a_c22 s19) hw (run_V (As := [.int 22]) (rest := [.int (μ.1 0 4)]) (np := 1) hf hw (k_X7_count l E _ 22) ⟨gl_V q98 q99 q100 q2 q101, by decide +kernel⟩ ⟨rfl, rfl, Nat.le_of_ble_eq_true rfl, Nat.le_of_ble_eq_true rfl⟩ (by decide) (c_O E _) rfl rfl hl.1 rfl (Nat.le_of_ble_eq_true rfl) dL_sensors_278 ⟨Nat.zero_le _, Nat.zero_le _⟩) (fun μ20 H locs s20 hw => ?_)
      refine lv_icmp_ne (tgt := 299) hx hb dL_sensors_281 (by decide) (fun z3 => ?_) (fun z3 => ?_)
      · refine lv_aload_n hx hb dL_sensors_299 rfl (lv_at hl 6 rfl) ?_
        refine lv_iload_n hx hb dL_sensors_300 rfl (lv_at hl 7 rfl) ?_
        refine lv_bipush (v := 14) hx hb dL_sensors_301 (by decide) ?_
        refine c_iV (v := (-200000)) (P := fun z => Same μ z) (⟨(a_s14 s20 h1 hN hk).1.trans j7, (a_s14 s20 h1 hN hk).2⟩) hw (run_V (As := [.int (nI k), .int 14]) (rest := []) (np := 2) hf hw (k_X7_sensorOf l E _ (nI k) 14) ⟨gl_V q199 q200 q201 q2 q202, by decide +kernel⟩ ⟨rfl, rfl, Nat.le_of_ble_eq_true rfl, Nat.le_of_ble_eq_true rfl⟩ (by decide) (c_O E _) rfl rfl hl.1 rfl (Nat.le_of_ble_eq_true rfl) dL_sensors_303 ⟨Nat.zero_le _, Nat.zero_le _⟩) (fun μ21 H locs s21 hw => ?_)
        refine lv_aload_n hx hb dL_sensors_306 rfl (lv_at hl 6 rfl) ?_
        refine lv_iload_n hx hb dL_sensors_307 rfl (lv_at hl 7 rfl) ?_
        refine lv_bipush (v := 15) hx hb dL_sensors_308 (by decide) ?_
        refine c_iV (v := 850000) (P := fun z => Same μ z) (⟨(a_s15 s21 h1 hN hk).1.trans j8, (a_s15 s21 h1 hN hk).2⟩) hw (run_V (As := [.int (nI k), .int 15]) (rest := [.int (-200000)]) (np := 2) hf hw (k_X7_sensorOf l E _ (nI k) 15) ⟨gl_V q199 q200 q201 q2 q202, by decide +kernel⟩ ⟨rfl, rfl, Nat.le_of_ble_eq_true rfl, Nat.le_of_ble_eq_true rfl⟩ (by decide) (c_O E _) rfl rfl hl.1 rfl (Nat.le_of_ble_eq_true rfl) dL_sensors_310 ⟨Nat.zero_le _, Nat.zero_le _⟩) (fun μ22 H locs s22 hw => ?_)
        refine lv_icmp_gt (tgt := 366) hx hb dL_sensors_313 (by decide) (fun c => absurd c (by decide)) (fun _ => ?_)
        refine lv_aload_n hx hb dL_sensors_316 rfl (lv_at hl 6 rfl) ?_
        refine lv_iload_n hx hb dL_sensors_317 rfl (lv_at hl 7 rfl) ?_
        refine lv_iconst (v := 2) hx hb dL_sensors_318 (by decide) ?_
        refine c_iV (v := μ.1 0 (sF k 2)) (P := fun z => Same μ z) (a_s2 s22 h1 hN hk) hw (run_V (As := [.int (nI k), .int 2]) (rest := []) (np := 2) hf hw (k_X7_sensorOf l E _ (nI k) 2) ⟨gl_V q199 q200 q201 q2 q202, by decide +kernel⟩ ⟨rfl, rfl, Nat.le_of_ble_eq_true rfl, Nat.le_of_ble_eq_true rfl⟩ (by decide) (c_O E _) rfl rfl hl.1 rfl (Nat.le_of_ble_eq_true rfl) dL_sensors_319 ⟨Nat.zero_le _, Nat.zero_le _⟩) (fun μ23 H locs s23 hw => ?_)
        refine lv_sipush (v := 1000) hx hb dL_sensors_322 (by decide) ?_
        refine lv_icmp_lt (tgt := 366) hx hb dL_sensors_325 (by decide) (fun c => absurd c (by rw [Int32.lt_iff_toInt_lt, show (1000 : Int32).toInt = 1000 by decide]; exact Int.not_lt.mpr j2.1)) (fun _ => ?_)
        refine lv_aload_n hx hb dL_sensors_328 rfl (lv_at hl 6 rfl) ?_
        refine lv_iload_n hx hb dL_sensors_329 rfl (lv_at hl 7 rfl) ?_
        refine lv_iconst (v := 2) hx hb dL_sensors_330 (by decide) ?_
        refine c_iV (v := μ.1 0 (sF k 2)) (P := fun z => Same μ z) (a_s2 s23 h1 hN hk) hw (run_V (As := [.int (nI k), .int 2]) (rest := []) (np := 2) hf hw (k_X7_sensorOf l E _ (nI k) 2) ⟨gl_V q199 q200 q201 q2 q202, by decide +kernel⟩ ⟨rfl, rfl, Nat.le_of_ble_eq_true rfl, Nat.le_of_ble_eq_true rfl⟩ (by decide) (c_O E _) rfl rfl hl.1 rfl (Nat.le_of_ble_eq_true rfl) dL_sensors_331 ⟨Nat.zero_le _, Nat.zero_le _⟩) (fun μ24 H locs s24 hw => ?_)
        refine lv_ldc hx hb hf.2.2.2.1 (hf.2.2.2.2 _ q244) dL_sensors_334 ?_
        refine lv_icmp_gt (tgt := 366) hx hb dL_sensors_336 (by decide) (fun c => absurd c (by rw [Int32.lt_iff_toInt_lt, show (2000000 : Int32).toInt = 2000000 by decide]; exact Int.not_lt.mpr j2.2)) (fun _ => ?_)
        refine lv_aload_n hx hb dL_sensors_339 rfl (lv_at hl 6 rfl) ?_
        refine lv_iload_n hx hb dL_sensors_340 rfl (lv_at hl 7 rfl) ?_
        refine lv_iconst (v := 3) hx hb dL_sensors_341 (by decide) ?_
        refine c_iV (v := μ.1 0 (sF k 3)) (P := fun z => Same μ z) (a_s3 s24 h1 hN hk) hw (run_V (As := [.int (nI k), .int 3]) (rest := []) (np := 2) hf hw (k_X7_sensorOf l E _ (nI k) 3) ⟨gl_V q199 q200 q201 q2 q202, by decide +kernel⟩ ⟨rfl, rfl, Nat.le_of_ble_eq_true rfl, Nat.le_of_ble_eq_true rfl⟩ (by decide) (c_O E _) rfl rfl hl.1 rfl (Nat.le_of_ble_eq_true rfl) dL_sensors_342 ⟨Nat.zero_le _, Nat.zero_le _⟩) (fun μ25 H locs s25 hw => ?_)
        refine lv_sipush (v := 1000) hx hb dL_sensors_345 (by decide) ?_
        refine lv_icmp_lt (tgt := 366) hx hb dL_sensors_348 (by decide) (fun c => absurd c (by rw [Int32.lt_iff_toInt_lt, show (1000 : Int32).toInt = 1000 by decide]; exact Int.not_lt.mpr j3.1)) (fun _ => ?_)
        refine lv_aload_n hx hb dL_sensors_351 rfl (lv_at hl 6 rfl) ?_
        refine lv_iload_n hx hb dL_sensors_352 rfl (lv_at hl 7 rfl) ?_
        refine lv_iconst (v := 3) hx hb dL_sensors_353 (by decide) ?_
        refine c_iV (v := μ.1 0 (sF k 3)) (P := fun z => Same μ z) (a_s3 s25 h1 hN hk) hw (run_V (As := [.int (nI k), .int 3]) (rest := []) (np := 2) hf hw (k_X7_sensorOf l E _ (nI k) 3) ⟨gl_V q199 q200 q201 q2 q202, by decide +kernel⟩ ⟨rfl, rfl, Nat.le_of_ble_eq_true rfl, Nat.le_of_ble_eq_true rfl⟩ (by decide) (c_O E _) rfl rfl hl.1 rfl (Nat.le_of_ble_eq_true rfl) dL_sensors_354 ⟨Nat.zero_le _, Nat.zero_le _⟩) (fun μ26 H locs s26 hw => ?_)
        refine lv_ldc hx hb hf.2.2.2.1 (hf.2.2.2.2 _ q244) dL_sensors_357 ?_
        refine lv_icmp_gt (tgt := 366) hx hb dL_sensors_359 (by decide) (fun c => absurd c (by rw [Int32.lt_iff_toInt_lt, show (2000000 : Int32).toInt = 2000000 by decide]; exact Int.not_lt.mpr j3.2)) (fun _ => ?_)
        refine lv_iconst (v := 1) hx hb dL_sensors_362 (by decide) ?_
        refine lv_goto (tgt := 367) hx hb dL_sensors_363 (by decide) ?_
        exact e_iP hf hr hlocks hw rfl (⟨rfl, s26⟩) dL_sensors_367
      · refine lv_aload_n hx hb dL_sensors_284 rfl (lv_at hl 6 rfl) ?_
        refine lv_iload_n hx hb dL_sensors_285 rfl (lv_at hl 7 rfl) ?_
        refine lv_iconst (v := 5) hx hb dL_sensors_286 (by decide) ?_
        refine c_iV (v := (wop (μ.1 0) k).toInt32) (P := fun z => Same μ z) (a_o5 s20 h1 hN hk) hw (run_V (As := [.int (nI k), .int 5]) (rest := []) (np := 2) hf hw (k_X7_ohms l E _ (nI k) 5) ⟨gl_V q371 q372 q373 q2 q374, by decide +kernel⟩ ⟨rfl, rfl, Nat.le_of_ble_eq_true rfl, Nat.le_of_ble_eq_true rfl⟩ (by decide) (c_O E _) rfl rfl hl.1 rfl (Nat.le_of_ble_eq_true rfl) dL_sensors_287 ⟨Nat.zero_le _, Nat.zero_le _⟩) (fun μ27 H locs s27 hw => ?_)
        refine lv_aload_n hx hb dL_sensors_290 rfl (lv_at hl 6 rfl) ?_
        refine lv_iload_n hx hb dL_sensors_291 rfl (lv_at hl 7 rfl) ?_
        refine lv_iconst (v := 3) hx hb dL_sensors_292 (by decide) ?_
        refine c_iV (v := (cps (μ.1 0) k (cur1 (μ.1 0)).toInt64).toInt32) (P := fun z => Same μ z) (a_o3 s27 h1 hN hk) hw (run_V (As := [.int (nI k), .int 3]) (rest := [.int ((wop (μ.1 0) k).toInt32)]) (np := 2) hf hw (k_X7_ohms l E _ (nI k) 3) ⟨gl_V q371 q372 q373 q2 q374, by decide +kernel⟩ ⟨rfl, rfl, Nat.le_of_ble_eq_true rfl, Nat.le_of_ble_eq_true rfl⟩ (by decide) (c_O E _) rfl rfl hl.1 rfl (Nat.le_of_ble_eq_true rfl) dL_sensors_293 ⟨Nat.zero_le _, Nat.zero_le _⟩) (fun μ28 H locs s28 hw => ?_)
        refine lv_icmp_ne (tgt := 366) hx hb dL_sensors_296 (by decide) (fun c => absurd (congrArg Int64.toInt32 (wop_s z3)) c) (fun _ => ?_)
        refine lv_aload_n hx hb dL_sensors_299 rfl (lv_at hl 6 rfl) ?_
        refine lv_iload_n hx hb dL_sensors_300 rfl (lv_at hl 7 rfl) ?_
        refine lv_bipush (v := 14) hx hb dL_sensors_301 (by decide) ?_
        refine c_iV (v := (-200000)) (P := fun z => Same μ z) (⟨(a_s14 s28 h1 hN hk).1.trans j7, (a_s14 s28 h1 hN hk).2⟩) hw (run_V (As := [.int (nI k), .int 14]) (rest := []) (np := 2) hf hw (k_X7_sensorOf l E _ (nI k) 14) ⟨gl_V q199 q200 q201 q2 q202, by decide +kernel⟩ ⟨rfl, rfl, Nat.le_of_ble_eq_true rfl, Nat.le_of_ble_eq_true rfl⟩ (by decide) (c_O E _) rfl rfl hl.1 rfl (Nat.le_of_ble_eq_true rfl) dL_sensors_303 ⟨Nat.zero_le _, Nat.zero_le _⟩) (fun μ29 H locs s29 hw => ?_)
        refine lv_aload_n hx hb dL_sensors_306 rfl (lv_at hl 6 rfl) ?_
        refine lv_iload_n hx hb dL_sensors_307 rfl (lv_at hl 7 rfl) ?_
        refine lv_bipush (v := 15) hx hb dL_sensors_308 (by decide) ?_
        refine c_iV (v := 850000) (P := fun z => Same μ z) (⟨(a_s15 s29 h1 hN hk).1.trans j8, (a_s15 s29 h1 hN hk).2⟩) hw (run_V (As := [.int (nI k), .int 15]) (rest := [.int (-200000)]) (np := 2) hf hw (k_X7_sensorOf l E _ (nI k) 15) ⟨gl_V q199 q200 q201 q2 q202, by decide +kernel⟩ ⟨rfl, rfl, Nat.le_of_ble_eq_true rfl, Nat.le_of_ble_eq_true rfl⟩ (by decide) (c_O E _) rfl rfl hl.1 rfl (Nat.le_of_ble_eq_true rfl) dL_sensors_310 ⟨Nat.zero_le _, Nat.zero_le _⟩) (fun μ30 H locs s30 hw => ?_)
        refine lv_icmp_gt (tgt := 366) hx hb dL_sensors_313 (by decide) (fun c => absurd c (by decide)) (fun _ => ?_)
        refine lv_aload_n hx hb dL_sensors_316 rfl (lv_at hl 6 rfl) ?_
        refine lv_iload_n hx hb dL_sensors_317 rfl (lv_at hl 7 rfl) ?_
        refine lv_iconst (v := 2) hx hb dL_sensors_318 (by decide) ?_
        refine c_iV (v := μ.1 0 (sF k 2)) (P := fun z => Same μ z) (a_s2 s30 h1 hN hk) hw (run_V (As := [.int (nI k), .int 2]) (rest := []) (np := 2) hf hw (k_X7_sensorOf l E _ (nI k) 2) ⟨gl_V q199 q200 q201 q2 q202, by decide +kernel⟩ ⟨rfl, rfl, Nat.le_of_ble_eq_true rfl, Nat.le_of_ble_eq_true rfl⟩ (by decide) (c_O E _) rfl rfl hl.1 rfl (Nat.le_of_ble_eq_true rfl) dL_sensors_319 ⟨Nat.zero_le _, Nat.zero_le _⟩) (fun μ31 H locs s31 hw => ?_)
        refine lv_sipush (v := 1000) hx hb dL_sensors_322 (by decide) ?_
        refine lv_icmp_lt (tgt := 366) hx hb dL_sensors_325 (by decide) (fun c => absurd c (by rw [Int32.lt_iff_toInt_lt, show (1000 : Int32).toInt = 1000 by decide]; exact Int.not_lt.mpr j2.1)) (fun _ => ?_)
        refine lv_aload_n hx hb dL_sensors_328 rfl (lv_at hl 6 rfl) ?_
        refine lv_iload_n hx hb dL_sensors_329 rfl (lv_at hl 7 rfl) ?_
        refine lv_iconst (v := 2) hx hb dL_sensors_330 (by decide) ?_
        refine c_iV (v := μ.1 0 (sF k 2)) (P := fun z => Same μ z) (a_s2 s31 h1 hN hk) hw (run_V (As := [.int (nI k), .int 2]) (rest := []) (np := 2) hf hw (k_X7_sensorOf l E _ (nI k) 2) ⟨gl_V q199 q200 q201 q2 q202, by decide +kernel⟩ ⟨rfl, rfl, Nat.le_of_ble_eq_true rfl, Nat.le_of_ble_eq_true rfl⟩ (by decide) (c_O E _) rfl rfl hl.1 rfl (Nat.le_of_ble_eq_true rfl) dL_sensors_331 ⟨Nat.zero_le _, Nat.zero_le _⟩) (fun μ32 H locs s32 hw => ?_)
        refine lv_ldc hx hb hf.2.2.2.1 (hf.2.2.2.2 _ q244) dL_sensors_334 ?_
        refine lv_icmp_gt (tgt := 366) hx hb dL_sensors_336 (by decide) (fun c => absurd c (by rw [Int32.lt_iff_toInt_lt, show (2000000 : Int32).toInt = 2000000 by decide]; exact Int.not_lt.mpr j2.2)) (fun _ => ?_)
        refine lv_aload_n hx hb dL_sensors_339 rfl (lv_at hl 6 rfl) ?_
        refine lv_iload_n hx hb dL_sensors_340 rfl (lv_at hl 7 rfl) ?_
        refine lv_iconst (v := 3) hx hb dL_sensors_341 (by decide) ?_
        refine c_iV (v := μ.1 0 (sF k 3)) (P := fun z => Same μ z) (a_s3 s32 h1 hN hk) hw (run_V (As := [.int (nI k), .int 3]) (rest := []) (np := 2) hf hw (k_X7_sensorOf l E _ (nI k) 3) ⟨gl_V q199 q200 q201 q2 q202, by decide +kernel⟩ ⟨rfl, rfl, Nat.le_of_ble_eq_true rfl, Nat.le_of_ble_eq_true rfl⟩ (by decide) (c_O E _) rfl rfl hl.1 rfl (Nat.le_of_ble_eq_true rfl) dL_sensors_342 ⟨Nat.zero_le _, Nat.zero_le _⟩) (fun μ33 H locs s33 hw => ?_)
        refine lv_sipush (v := 1000) hx hb dL_sensors_345 (by decide) ?_
        refine lv_icmp_lt (tgt := 366) hx hb dL_sensors_348 (by decide) (fun c => absurd c (by rw [Int32.lt_iff_toInt_lt, show (1000 : Int32).toInt = 1000 by decide]; exact Int.not_lt.mpr j3.1)) (fun _ => ?_)
        refine lv_aload_n hx hb dL_sensors_351 rfl (lv_at hl 6 rfl) ?_
        refine lv_iload_n hx hb dL_sensors_352 rfl (lv_at hl 7 rfl) ?_
        refine lv_iconst (v := 3) hx hb dL_sensors_353 (by decide) ?_
        refine c_iV (v := μ.1 0 (sF k 3)) (P := fun z => Same μ z) (a_s3 s33 h1 hN hk) hw (run_V (As := [.int (nI k), .int 3]) (rest := []) (np := 2) hf hw (k_X7_sensorOf l E _ (nI k) 3) ⟨gl_V q199 q200 q201 q2 q202, by decide +kernel⟩ ⟨rfl, rfl, Nat.le_of_ble_eq_true rfl, Nat.le_of_ble_eq_true rfl⟩ (by decide) (c_O E _) rfl rfl hl.1 rfl (Nat.le_of_ble_eq_true rfl) dL_sensors_354 ⟨Nat.zero_le _, Nat.zero_le _⟩) (fun μ34 H locs s34 hw => ?_)
        refine lv_ldc hx hb hf.2.2.2.1 (hf.2.2.2.2 _ q244) dL_sensors_357 ?_
        refine lv_icmp_gt (tgt := 366) hx hb dL_sensors_359 (by decide) (fun c => absurd c (by rw [Int32.lt_iff_toInt_lt, show (2000000 : Int32).toInt = 2000000 by decide]; exact Int.not_lt.mpr j3.2)) (fun _ => ?_)
        refine lv_iconst (v := 1) hx hb dL_sensors_362 (by decide) ?_
        refine lv_goto (tgt := 367) hx hb dL_sensors_363 (by decide) ?_
        exact e_iP hf hr hlocks hw rfl (⟨rfl, s34⟩) dL_sensors_367
    · refine lv_aload_n hx hb dL_sensors_242 rfl (lv_at hl 6 rfl) ?_
      refine lv_iload_n hx hb dL_sensors_243 rfl (lv_at hl 7 rfl) ?_
      refine lv_iconst (v := 3) hx hb dL_sensors_244 (by decide) ?_
      refine c_iV (v := (cps (μ.1 0) k (cur1 (μ.1 0)).toInt64).toInt32) (P := fun z => Same μ z) (a_o3 s18 h1 hN hk) hw (run_V (As := [.int (nI k), .int 3]) (rest := []) (np := 2) hf hw (k_X7_ohms l E _ (nI k) 3) ⟨gl_V q371 q372 q373 q2 q374, by decide +kernel⟩ ⟨rfl, rfl, Nat.le_of_ble_eq_true rfl, Nat.le_of_ble_eq_true rfl⟩ (by decide) (c_O E _) rfl rfl hl.1 rfl (Nat.le_of_ble_eq_true rfl) dL_sensors_245 ⟨Nat.zero_le _, Nat.zero_le _⟩) (fun μ35 H locs s35 hw => ?_)
      refine lv_aload_n hx hb dL_sensors_248 rfl (lv_at hl 6 rfl) ?_
      refine lv_iload_n hx hb dL_sensors_249 rfl (lv_at hl 7 rfl) ?_
      refine lv_iconst (v := 2) hx hb dL_sensors_250 (by decide) ?_
      refine c_iV (v := (lpo (μ.1 0) k (cur1 (μ.1 0)).toInt64).toInt32) (P := fun z => Same μ z) (a_o2 s35 h1 hN hk) hw (run_V (As := [.int (nI k), .int 2]) (rest := [.int ((cps (μ.1 0) k (cur1 (μ.1 0)).toInt64).toInt32)]) (np := 2) hf hw (k_X7_ohms l E _ (nI k) 2) ⟨gl_V q371 q372 q373 q2 q374, by decide +kernel⟩ ⟨rfl, rfl, Nat.le_of_ble_eq_true rfl, Nat.le_of_ble_eq_true rfl⟩ (by decide) (c_O E _) rfl rfl hl.1 rfl (Nat.le_of_ble_eq_true rfl) dL_sensors_251 ⟨Nat.zero_le _, Nat.zero_le _⟩) (fun μ36 H locs s36 hw => ?_)
      refine lv_icmp_ne (tgt := 261) hx hb dL_sensors_254 (by decide) (fun c => absurd (congrArg Int64.toInt32 (cps_l (by rw [j1]; exact z2))) c) (fun _ => ?_)
      refine lv_iconst (v := 1) hx hb dL_sensors_257 (by decide) ?_
      refine lv_goto (tgt := 262) hx hb dL_sensors_258 (by decide) ?_
      refine lv_istore (lv' := [(5, .int 1), (7, .int ((oth (μ.1 0) k (μ.1 0 4).toInt64).toInt32)), (6, .int ((one (μ.1 0) k (μ.1 0 4).toInt64).toInt32)), (4, .int (nI (k % 3 * 10 + k / 3))), (3, .int (4 <<< ((μ.1 0 6) &&& 31))), (2, .int (nI (2 + k % 3))), (0, .ref (E.1 231)), (1, .int (nI k))]) hx hb dL_sensors_262 hl (by decide) rfl (fun ls hl => ?_)
      refine lv_iload hx hb dL_sensors_264 (lv_at hl 0 rfl) ?_
      refine lv_if_eq (tgt := 366) hx hb dL_sensors_266 (by decide) (fun c => absurd c (by decide)) (fun _ => ?_)
      refine lv_aload_n hx hb dL_sensors_269 rfl (lv_at hl 6 rfl) ?_
      refine lv_bipush (v := 21) hx hb dL_sensors_270 (by decide) ?_
      refine c_iV (v := μ.1 0 4) (P := fun z => Same μ z) (a_c21 s36) hw (run_V (As := [.int 21]) (rest := []) (np := 1) hf hw (k_X7_count l E _ 21) ⟨gl_V q98 q99 q100 q2 q101, by decide +kernel⟩ ⟨rfl, rfl, Nat.le_of_ble_eq_true rfl, Nat.le_of_ble_eq_true rfl⟩ (by decide) (c_O E _) rfl rfl hl.1 rfl (Nat.le_of_ble_eq_true rfl) dL_sensors_272 ⟨Nat.zero_le _, Nat.zero_le _⟩) (fun μ37 H locs s37 hw => ?_)
      refine lv_aload_n hx hb dL_sensors_275 rfl (lv_at hl 6 rfl) ?_
      refine lv_bipush (v := 22) hx hb dL_sensors_276 (by decide) ?_
      refine c_iV (v := μ.1 0 5) (P := fun z => Same μ z) (a_c22 s37) hw (run_V (As := [.int 22]) (rest := [.int (μ.1 0 4)]) (np := 1) hf hw (k_X7_count l E _ 22) ⟨gl_V q98 q99 q100 q2 q101, by decide +kernel⟩ ⟨rfl, rfl, Nat.le_of_ble_eq_true rfl, Nat.le_of_ble_eq_true rfl⟩ (by decide) (c_O E _) rfl rfl hl.1 rfl (Nat.le_of_ble_eq_true rfl) dL_sensors_278 ⟨Nat.zero_le _, Nat.zero_le _⟩) (fun μ38 H locs s38 hw => ?_)
      refine lv_icmp_ne (tgt := 299) hx hb dL_sensors_281 (by decide) (fun z3 => ?_) (fun z3 => ?_)
      · refine lv_aload_n hx hb dL_sensors_299 rfl (lv_at hl 6 rfl) ?_
        refine lv_iload_n hx hb dL_sensors_300 rfl (lv_at hl 7 rfl) ?_
        refine lv_bipush (v := 14) hx hb dL_sensors_301 (by decide) ?_
        refine c_iV (v := (-200000)) (P := fun z => Same μ z) (⟨(a_s14 s38 h1 hN hk).1.trans j7, (a_s14 s38 h1 hN hk).2⟩) hw (run_V (As := [.int (nI k), .int 14]) (rest := []) (np := 2) hf hw (k_X7_sensorOf l E _ (nI k) 14) ⟨gl_V q199 q200 q201 q2 q202, by decide +kernel⟩ ⟨rfl, rfl, Nat.le_of_ble_eq_true rfl, Nat.le_of_ble_eq_true rfl⟩ (by decide) (c_O E _) rfl rfl hl.1 rfl (Nat.le_of_ble_eq_true rfl) dL_sensors_303 ⟨Nat.zero_le _, Nat.zero_le _⟩) (fun μ39 H locs s39 hw => ?_)
        refine lv_aload_n hx hb dL_sensors_306 rfl (lv_at hl 6 rfl) ?_
        refine lv_iload_n hx hb dL_sensors_307 rfl (lv_at hl 7 rfl) ?_
        refine lv_bipush (v := 15) hx hb dL_sensors_308 (by decide) ?_
        refine c_iV (v := 850000) (P := fun z => Same μ z) (⟨(a_s15 s39 h1 hN hk).1.trans j8, (a_s15 s39 h1 hN hk).2⟩) hw (run_V (As := [.int (nI k), .int 15]) (rest := [.int (-200000)]) (np := 2) hf hw (k_X7_sensorOf l E _ (nI k) 15) ⟨gl_V q199 q200 q201 q2 q202, by decide +kernel⟩ ⟨rfl, rfl, Nat.le_of_ble_eq_true rfl, Nat.le_of_ble_eq_true rfl⟩ (by decide) (c_O E _) rfl rfl hl.1 rfl (Nat.le_of_ble_eq_true rfl) dL_sensors_310 ⟨Nat.zero_le _, Nat.zero_le _⟩) (fun μ40 H locs s40 hw => ?_)
        refine lv_icmp_gt (tgt := 366) hx hb dL_sensors_313 (by decide) (fun c => absurd c (by decide)) (fun _ => ?_)
        refine lv_aload_n hx hb dL_sensors_316 rfl (lv_at hl 6 rfl) ?_
        refine lv_iload_n hx hb dL_sensors_317 rfl (lv_at hl 7 rfl) ?_
        refine lv_iconst (v := 2) hx hb dL_sensors_318 (by decide) ?_
        refine c_iV (v := μ.1 0 (sF k 2)) (P := fun z => Same μ z) (a_s2 s40 h1 hN hk) hw (run_V (As := [.int (nI k), .int 2]) (rest := []) (np := 2) hf hw (k_X7_sensorOf l E _ (nI k) 2) ⟨gl_V q199 q200 q201 q2 q202, by decide +kernel⟩ ⟨rfl, rfl, Nat.le_of_ble_eq_true rfl, Nat.le_of_ble_eq_true rfl⟩ (by decide) (c_O E _) rfl rfl hl.1 rfl (Nat.le_of_ble_eq_true rfl) dL_sensors_319 ⟨Nat.zero_le _, Nat.zero_le _⟩) (fun μ41 H locs s41 hw => ?_)
        refine lv_sipush (v := 1000) hx hb dL_sensors_322 (by decide) ?_
        refine lv_icmp_lt (tgt := 366) hx hb dL_sensors_325 (by decide) (fun c => absurd c (by rw [Int32.lt_iff_toInt_lt, show (1000 : Int32).toInt = 1000 by decide]; exact Int.not_lt.mpr j2.1)) (fun _ => ?_)
        refine lv_aload_n hx hb dL_sensors_328 rfl (lv_at hl 6 rfl) ?_
        refine lv_iload_n hx hb dL_sensors_329 rfl (lv_at hl 7 rfl) ?_
        refine lv_iconst (v := 2) hx hb dL_sensors_330 (by decide) ?_
        refine c_iV (v := μ.1 0 (sF k 2)) (P := fun z => Same μ z) (a_s2 s41 h1 hN hk) hw (run_V (As := [.int (nI k), .int 2]) (rest := []) (np := 2) hf hw (k_X7_sensorOf l E _ (nI k) 2) ⟨gl_V q199 q200 q201 q2 q202, by decide +kernel⟩ ⟨rfl, rfl, Nat.le_of_ble_eq_true rfl, Nat.le_of_ble_eq_true rfl⟩ (by decide) (c_O E _) rfl rfl hl.1 rfl (Nat.le_of_ble_eq_true rfl) dL_sensors_331 ⟨Nat.zero_le _, Nat.zero_le _⟩) (fun μ42 H locs s42 hw => ?_)
        refine lv_ldc hx hb hf.2.2.2.1 (hf.2.2.2.2 _ q244) dL_sensors_334 ?_
        refine lv_icmp_gt (tgt := 366) hx hb dL_sensors_336 (by decide) (fun c => absurd c (by rw [Int32.lt_iff_toInt_lt, show (2000000 : Int32).toInt = 2000000 by decide]; exact Int.not_lt.mpr j2.2)) (fun _ => ?_)
        refine lv_aload_n hx hb dL_sensors_339 rfl (lv_at hl 6 rfl) ?_
        refine lv_iload_n hx hb dL_sensors_340 rfl (lv_at hl 7 rfl) ?_
        refine lv_iconst (v := 3) hx hb dL_sensors_341 (by decide) ?_
        refine c_iV (v := μ.1 0 (sF k 3)) (P := fun z => Same μ z) (a_s3 s42 h1 hN hk) hw (run_V (As := [.int (nI k), .int 3]) (rest := []) (np := 2) hf hw (k_X7_sensorOf l E _ (nI k) 3) ⟨gl_V q199 q200 q201 q2 q202, by decide +kernel⟩ ⟨rfl, rfl, Nat.le_of_ble_eq_true rfl, Nat.le_of_ble_eq_true rfl⟩ (by decide) (c_O E _) rfl rfl hl.1 rfl (Nat.le_of_ble_eq_true rfl) dL_sensors_342 ⟨Nat.zero_le _, Nat.zero_le _⟩) (fun μ43 H locs s43 hw => ?_)
        refine lv_sipush (v := 1000) hx hb dL_sensors_345 (by decide) ?_
        refine lv_icmp_lt (tgt := 366) hx hb dL_sensors_348 (by decide) (fun c => absurd c (by rw [Int32.lt_iff_toInt_lt, show (1000 : Int32).toInt = 1000 by decide]; exact Int.not_lt.mpr j3.1)) (fun _ => ?_)
        refine lv_aload_n hx hb dL_sensors_351 rfl (lv_at hl 6 rfl) ?_
        refine lv_iload_n hx hb dL_sensors_352 rfl (lv_at hl 7 rfl) ?_
        refine lv_iconst (v := 3) hx hb dL_sensors_353 (by decide) ?_
        refine c_iV (v := μ.1 0 (sF k 3)) (P := fun z => Same μ z) (a_s3 s43 h1 hN hk) hw (run_V (As := [.int (nI k), .int 3]) (rest := []) (np := 2) hf hw (k_X7_sensorOf l E _ (nI k) 3) ⟨gl_V q199 q200 q201 q2 q202, by decide +kernel⟩ ⟨rfl, rfl, Nat.le_of_ble_eq_true rfl, Nat.le_of_ble_eq_true rfl⟩ (by decide) (c_O E _) rfl rfl hl.1 rfl (Nat.le_of_ble_eq_true rfl) dL_sensors_354 ⟨Nat.zero_le _, Nat.zero_le _⟩) (fun μ44 H locs s44 hw => ?_)
        refine lv_ldc hx hb hf.2.2.2.1 (hf.2.2.2.2 _ q244) dL_sensors_357 ?_
        refine lv_icmp_gt (tgt := 366) hx hb dL_sensors_359 (by decide) (fun c => absurd c (by rw [Int32.lt_iff_toInt_lt, show (2000000 : Int32).toInt = 2000000 by decide]; exact Int.not_lt.mpr j3.2)) (fun _ => ?_)
        refine lv_iconst (v := 1) hx hb dL_sensors_362 (by decide) ?_
        refine lv_goto (tgt := 367) hx hb dL_sensors_363 (by decide) ?_
        exact e_iP hf hr hlocks hw rfl (⟨rfl, s44⟩) dL_sensors_367
      · refine lv_aload_n hx hb dL_sensors_284 rfl (lv_at hl 6 rfl) ?_
        refine lv_iload_n hx hb dL_sensors_285 rfl (lv_at hl 7 rfl) ?_
        refine lv_iconst (v := 5) hx hb dL_sensors_286 (by decide) ?_
        refine c_iV (v := (wop (μ.1 0) k).toInt32) (P := fun z => Same μ z) (a_o5 s38 h1 hN hk) hw (run_V (As := [.int (nI k), .int 5]) (rest := []) (np := 2) hf hw (k_X7_ohms l E _ (nI k) 5) ⟨gl_V q371 q372 q373 q2 q374, by decide +kernel⟩ ⟨rfl, rfl, Nat.le_of_ble_eq_true rfl, Nat.le_of_ble_eq_true rfl⟩ (by decide) (c_O E _) rfl rfl hl.1 rfl (Nat.le_of_ble_eq_true rfl) dL_sensors_287 ⟨Nat.zero_le _, Nat.zero_le _⟩) (fun μ45 H locs s45 hw => ?_)
        refine lv_aload_n hx hb dL_sensors_290 rfl (lv_at hl 6 rfl) ?_
        refine lv_iload_n hx hb dL_sensors_291 rfl (lv_at hl 7 rfl) ?_
        refine lv_iconst (v := 3) hx hb dL_sensors_292 (by decide) ?_
        refine c_iV (v := (cps (μ.1 0) k (cur1 (μ.1 0)).toInt64).toInt32) (P := fun z => Same μ z) (a_o3 s45 h1 hN hk) hw (run_V (As := [.int (nI k), .int 3]) (rest := [.int ((wop (μ.1 0) k).toInt32)]) (np := 2) hf hw (k_X7_ohms l E _ (nI k) 3) ⟨gl_V q371 q372 q373 q2 q374, by decide +kernel⟩ ⟨rfl, rfl, Nat.le_of_ble_eq_true rfl, Nat.le_of_ble_eq_true rfl⟩ (by decide) (c_O E _) rfl rfl hl.1 rfl (Nat.le_of_ble_eq_true rfl) dL_sensors_293 ⟨Nat.zero_le _, Nat.zero_le _⟩) (fun μ46 H locs s46 hw => ?_)
        refine lv_icmp_ne (tgt := 366) hx hb dL_sensors_296 (by decide) (fun c => absurd (congrArg Int64.toInt32 (wop_s z3)) c) (fun _ => ?_)
        refine lv_aload_n hx hb dL_sensors_299 rfl (lv_at hl 6 rfl) ?_
        refine lv_iload_n hx hb dL_sensors_300 rfl (lv_at hl 7 rfl) ?_
        refine lv_bipush (v := 14) hx hb dL_sensors_301 (by decide) ?_
        refine c_iV (v := (-200000)) (P := fun z => Same μ z) (⟨(a_s14 s46 h1 hN hk).1.trans j7, (a_s14 s46 h1 hN hk).2⟩) hw (run_V (As := [.int (nI k), .int 14]) (rest := []) (np := 2) hf hw (k_X7_sensorOf l E _ (nI k) 14) ⟨gl_V q199 q200 q201 q2 q202, by decide +kernel⟩ ⟨rfl, rfl, Nat.le_of_ble_eq_true rfl, Nat.le_of_ble_eq_true rfl⟩ (by decide) (c_O E _) rfl rfl hl.1 rfl (Nat.le_of_ble_eq_true rfl) dL_sensors_303 ⟨Nat.zero_le _, Nat.zero_le _⟩) (fun μ47 H locs s47 hw => ?_)
        refine lv_aload_n hx hb dL_sensors_306 rfl (lv_at hl 6 rfl) ?_
        refine lv_iload_n hx hb dL_sensors_307 rfl (lv_at hl 7 rfl) ?_
        refine lv_bipush (v := 15) hx hb dL_sensors_308 (by decide) ?_
        refine c_iV (v := 850000) (P := fun z => Same μ z) (⟨(a_s15 s47 h1 hN hk).1.trans j8, (a_s15 s47 h1 hN hk).2⟩) hw (run_V (As := [.int (nI k), .int 15]) (rest := [.int (-200000)]) (np := 2) hf hw (k_X7_sensorOf l E _ (nI k) 15) ⟨gl_V q199 q200 q201 q2 q202, by decide +kernel⟩ ⟨rfl, rfl, Nat.le_of_ble_eq_true rfl, Nat.le_of_ble_eq_true rfl⟩ (by decide) (c_O E _) rfl rfl hl.1 rfl (Nat.le_of_ble_eq_true rfl) dL_sensors_310 ⟨Nat.zero_le _, Nat.zero_le _⟩) (fun μ48 H locs s48 hw => ?_)
        refine lv_icmp_gt (tgt := 366) hx hb dL_sensors_313 (by decide) (fun c => absurd c (by decide)) (fun _ => ?_)
        refine lv_aload_n hx hb dL_sensors_316 rfl (lv_at hl 6 rfl) ?_
        refine lv_iload_n hx hb dL_sensors_317 rfl (lv_at hl 7 rfl) ?_
        refine lv_iconst (v := 2) hx hb dL_sensors_318 (by decide) ?_
        refine c_iV (v := μ.1 0 (sF k 2)) (P := fun z => Same μ z) (a_s2 s48 h1 hN hk) hw (run_V (As := [.int (nI k), .int 2]) (rest := []) (np := 2) hf hw (k_X7_sensorOf l E _ (nI k) 2) ⟨gl_V q199 q200 q201 q2 q202, by decide +kernel⟩ ⟨rfl, rfl, Nat.le_of_ble_eq_true rfl, Nat.le_of_ble_eq_true rfl⟩ (by decide) (c_O E _) rfl rfl hl.1 rfl (Nat.le_of_ble_eq_true rfl) dL_sensors_319 ⟨Nat.zero_le _, Nat.zero_le _⟩) (fun μ49 H locs s49 hw => ?_)
        refine lv_sipush (v := 1000) hx hb dL_sensors_322 (by decide) ?_
        refine lv_icmp_lt (tgt := 366) hx hb dL_sensors_325 (by decide) (fun c => absurd c (by rw [Int32.lt_iff_toInt_lt, show (1000 : Int32).toInt = 1000 by decide]; exact Int.not_lt.mpr j2.1)) (fun _ => ?_)
        refine lv_aload_n hx hb dL_sensors_328 rfl (lv_at hl 6 rfl) ?_
        refine lv_iload_n hx hb dL_sensors_329 rfl (lv_at hl 7 rfl) ?_
        refine lv_iconst (v := 2) hx hb dL_sensors_330 (by decide) ?_
        refine c_iV (v := μ.1 0 (sF k 2)) (P := fun z => Same μ z) (a_s2 s49 h1 hN hk) hw (run_V (As := [.int (nI k), .int 2]) (rest := []) (np := 2) hf hw (k_X7_sensorOf l E _ (nI k) 2) ⟨gl_V q199 q200 q201 q2 q202, by decide +kernel⟩ ⟨rfl, rfl, Nat.le_of_ble_eq_true rfl, Nat.le_of_ble_eq_true rfl⟩ (by decide) (c_O E _) rfl rfl hl.1 rfl (Nat.le_of_ble_eq_true rfl) dL_sensors_331 ⟨Nat.zero_le _, Nat.zero_le _⟩) (fun μ50 H locs s50 hw => ?_)
        refine lv_ldc hx hb hf.2.2.2.1 (hf.2.2.2.2 _ q244) dL_sensors_334 ?_
        refine lv_icmp_gt (tgt := 366) hx hb dL_sensors_336 (by decide) (fun c => absurd c (by rw [Int32.lt_iff_toInt_lt, show (2000000 : Int32).toInt = 2000000 by decide]; exact Int.not_lt.mpr j2.2)) (fun _ => ?_)
        refine lv_aload_n hx hb dL_sensors_339 rfl (lv_at hl 6 rfl) ?_
        refine lv_iload_n hx hb dL_sensors_340 rfl (lv_at hl 7 rfl) ?_
        refine lv_iconst (v := 3) hx hb dL_sensors_341 (by decide) ?_
        refine c_iV (v := μ.1 0 (sF k 3)) (P := fun z => Same μ z) (a_s3 s50 h1 hN hk) hw (run_V (As := [.int (nI k), .int 3]) (rest := []) (np := 2) hf hw (k_X7_sensorOf l E _ (nI k) 3) ⟨gl_V q199 q200 q201 q2 q202, by decide +kernel⟩ ⟨rfl, rfl, Nat.le_of_ble_eq_true rfl, Nat.le_of_ble_eq_true rfl⟩ (by decide) (c_O E _) rfl rfl hl.1 rfl (Nat.le_of_ble_eq_true rfl) dL_sensors_342 ⟨Nat.zero_le _, Nat.zero_le _⟩) (fun μ51 H locs s51 hw => ?_)
        refine lv_sipush (v := 1000) hx hb dL_sensors_345 (by decide) ?_
        refine lv_icmp_lt (tgt := 366) hx hb dL_sensors_348 (by decide) (fun c => absurd c (by rw [Int32.lt_iff_toInt_lt, show (1000 : Int32).toInt = 1000 by decide]; exact Int.not_lt.mpr j3.1)) (fun _ => ?_)
        refine lv_aload_n hx hb dL_sensors_351 rfl (lv_at hl 6 rfl) ?_
        refine lv_iload_n hx hb dL_sensors_352 rfl (lv_at hl 7 rfl) ?_
        refine lv_iconst (v := 3) hx hb dL_sensors_353 (by decide) ?_
        refine c_iV (v := μ.1 0 (sF k 3)) (P := fun z => Same μ z) (a_s3 s51 h1 hN hk) hw (run_V (As := [.int (nI k), .int 3]) (rest := []) (np := 2) hf hw (k_X7_sensorOf l E _ (nI k) 3) ⟨gl_V q199 q200 q201 q2 q202, by decide +kernel⟩ ⟨rfl, rfl, Nat.le_of_ble_eq_true rfl, Nat.le_of_ble_eq_true rfl⟩ (by decide) (c_O E _) rfl rfl hl.1 rfl (Nat.le_of_ble_eq_true rfl) dL_sensors_354 ⟨Nat.zero_le _, Nat.zero_le _⟩) (fun μ52 H locs s52 hw => ?_)
        refine lv_ldc hx hb hf.2.2.2.1 (hf.2.2.2.2 _ q244) dL_sensors_357 ?_
        refine lv_icmp_gt (tgt := 366) hx hb dL_sensors_359 (by decide) (fun c => absurd c (by rw [Int32.lt_iff_toInt_lt, show (2000000 : Int32).toInt = 2000000 by decide]; exact Int.not_lt.mpr j3.2)) (fun _ => ?_)
        refine lv_iconst (v := 1) hx hb dL_sensors_362 (by decide) ?_
        refine lv_goto (tgt := 367) hx hb dL_sensors_363 (by decide) ?_
        exact e_iP hf hr hlocks hw rfl (⟨rfl, s52⟩) dL_sensors_367
  · refine lv_aload_n hx hb dL_sensors_228 rfl (lv_at hl 6 rfl) ?_
    refine lv_iload_n hx hb dL_sensors_229 rfl (lv_at hl 7 rfl) ?_
    refine lv_iconst (v := 0) hx hb dL_sensors_230 (by decide) ?_
    refine c_iV (v := (htq (μ.1 0) k (cur1 (μ.1 0)).toInt64).toInt32) (P := fun z => Same μ z) (a_o0 s18 h1 hN hk) hw (run_V (As := [.int (nI k), .int 0]) (rest := []) (np := 2) hf hw (k_X7_ohms l E _ (nI k) 0) ⟨gl_V q371 q372 q373 q2 q374, by decide +kernel⟩ ⟨rfl, rfl, Nat.le_of_ble_eq_true rfl, Nat.le_of_ble_eq_true rfl⟩ (by decide) (c_O E _) rfl rfl hl.1 rfl (Nat.le_of_ble_eq_true rfl) dL_sensors_231 ⟨Nat.zero_le _, Nat.zero_le _⟩) (fun μ53 H locs s53 hw => ?_)
    refine lv_if_ne (tgt := 261) hx hb dL_sensors_234 (by decide) (fun c => absurd (by rw [ht_sh h.2.1.1 hT3 ht et (hsh.resolve_left z1)]; rfl) c) (fun _ => ?_)
    refine lv_iload_n hx hb dL_sensors_237 rfl (lv_at hl 5 rfl) ?_
    refine lv_iconst (v := 3) hx hb dL_sensors_238 (by decide) ?_
    refine lv_icmp_eq (tgt := 257) hx hb dL_sensors_239 (by decide) (fun z2 => ?_) (fun z2 => ?_)
    · refine lv_iconst (v := 1) hx hb dL_sensors_257 (by decide) ?_
      refine lv_goto (tgt := 262) hx hb dL_sensors_258 (by decide) ?_
      refine lv_istore (lv' := [(5, .int 1), (7, .int ((oth (μ.1 0) k (μ.1 0 4).toInt64).toInt32)), (6, .int ((one (μ.1 0) k (μ.1 0 4).toInt64).toInt32)), (4, .int (nI (k % 3 * 10 + k / 3))), (3, .int (4 <<< ((μ.1 0 6) &&& 31))), (2, .int (nI (2 + k % 3))), (0, .ref (E.1 231)), (1, .int (nI k))]) hx hb dL_sensors_262 hl (by decide) rfl (fun ls hl => ?_)
      refine lv_iload hx hb dL_sensors_264 (lv_at hl 0 rfl) ?_
      refine lv_if_eq (tgt := 366) hx hb dL_sensors_266 (by decide) (fun c => absurd c (by decide)) (fun _ => ?_)
      refine lv_aload_n hx hb dL_sensors_269 rfl (lv_at hl 6 rfl) ?_
      refine lv_bipush (v := 21) hx hb dL_sensors_270 (by decide) ?_
      refine c_iV (v := μ.1 0 4) (P := fun z => Same μ z) (a_c21 s53) hw (run_V (As := [.int 21]) (rest := []) (np := 1) hf hw (k_X7_count l E _ 21) ⟨gl_V q98 q99 q100 q2 q101, by decide +kernel⟩ ⟨rfl, rfl, Nat.le_of_ble_eq_true rfl, Nat.le_of_ble_eq_true rfl⟩ (by decide) (c_O E _) rfl rfl hl.1 rfl (Nat.le_of_ble_eq_true rfl) dL_sensors_272 ⟨Nat.zero_le _, Nat.zero_le _⟩) (fun μ54 H locs s54 hw => ?_)
      refine lv_aload_n hx hb dL_sensors_275 rfl (lv_at hl 6 rfl) ?_
      refine lv_bipush (v := 22) hx hb dL_sensors_276 (by decide) ?_
      refine c_iV (v := μ.1 0 5) (P := fun z => Same μ z) (a_c22 s54) hw (run_V (As := [.int 22]) (rest := [.int (μ.1 0 4)]) (np := 1) hf hw (k_X7_count l E _ 22) ⟨gl_V q98 q99 q100 q2 q101, by decide +kernel⟩ ⟨rfl, rfl, Nat.le_of_ble_eq_true rfl, Nat.le_of_ble_eq_true rfl⟩ (by decide) (c_O E _) rfl rfl hl.1 rfl (Nat.le_of_ble_eq_true rfl) dL_sensors_278 ⟨Nat.zero_le _, Nat.zero_le _⟩) (fun μ55 H locs s55 hw => ?_)
      refine lv_icmp_ne (tgt := 299) hx hb dL_sensors_281 (by decide) (fun z3 => ?_) (fun z3 => ?_)
      · refine lv_aload_n hx hb dL_sensors_299 rfl (lv_at hl 6 rfl) ?_
        refine lv_iload_n hx hb dL_sensors_300 rfl (lv_at hl 7 rfl) ?_
        refine lv_bipush (v := 14) hx hb dL_sensors_301 (by decide) ?_
        refine c_iV (v := (-200000)) (P := fun z => Same μ z) (⟨(a_s14 s55 h1 hN hk).1.trans j7, (a_s14 s55 h1 hN hk).2⟩) hw (run_V (As := [.int (nI k), .int 14]) (rest := []) (np := 2) hf hw (k_X7_sensorOf l E _ (nI k) 14) ⟨gl_V q199 q200 q201 q2 q202, by decide +kernel⟩ ⟨rfl, rfl, Nat.le_of_ble_eq_true rfl, Nat.le_of_ble_eq_true rfl⟩ (by decide) (c_O E _) rfl rfl hl.1 rfl (Nat.le_of_ble_eq_true rfl) dL_sensors_303 ⟨Nat.zero_le _, Nat.zero_le _⟩) (fun μ56 H locs s56 hw => ?_)
        refine lv_aload_n hx hb dL_sensors_306 rfl (lv_at hl 6 rfl) ?_
        refine lv_iload_n hx hb dL_sensors_307 rfl (lv_at hl 7 rfl) ?_
        refine lv_bipush (v := 15) hx hb dL_sensors_308 (by decide) ?_
        refine c_iV (v := 850000) (P := fun z => Same μ z) (⟨(a_s15 s56 h1 hN hk).1.trans j8, (a_s15 s56 h1 hN hk).2⟩) hw (run_V (As := [.int (nI k), .int 15]) (rest := [.int (-200000)]) (np := 2) hf hw (k_X7_sensorOf l E _ (nI k) 15) ⟨gl_V q199 q200 q201 q2 q202, by decide +kernel⟩ ⟨rfl, rfl, Nat.le_of_ble_eq_true rfl, Nat.le_of_ble_eq_true rfl⟩ (by decide) (c_O E _) rfl rfl hl.1 rfl (Nat.le_of_ble_eq_true rfl) dL_sensors_310 ⟨Nat.zero_le _, Nat.zero_le _⟩) (fun μ57 H locs s57 hw => ?_)
        refine lv_icmp_gt (tgt := 366) hx hb dL_sensors_313 (by decide) (fun c => absurd c (by decide)) (fun _ => ?_)
        refine lv_aload_n hx hb dL_sensors_316 rfl (lv_at hl 6 rfl) ?_
        refine lv_iload_n hx hb dL_sensors_317 rfl (lv_at hl 7 rfl) ?_
        refine lv_iconst (v := 2) hx hb dL_sensors_318 (by decide) ?_
        refine c_iV (v := μ.1 0 (sF k 2)) (P := fun z => Same μ z) (a_s2 s57 h1 hN hk) hw (run_V (As := [.int (nI k), .int 2]) (rest := []) (np := 2) hf hw (k_X7_sensorOf l E _ (nI k) 2) ⟨gl_V q199 q200 q201 q2 q202, by decide +kernel⟩ ⟨rfl, rfl, Nat.le_of_ble_eq_true rfl, Nat.le_of_ble_eq_true rfl⟩ (by decide) (c_O E _) rfl rfl hl.1 rfl (Nat.le_of_ble_eq_true rfl) dL_sensors_319 ⟨Nat.zero_le _, Nat.zero_le _⟩) (fun μ58 H locs s58 hw => ?_)
        refine lv_sipush (v := 1000) hx hb dL_sensors_322 (by decide) ?_
        refine lv_icmp_lt (tgt := 366) hx hb dL_sensors_325 (by decide) (fun c => absurd c (by rw [Int32.lt_iff_toInt_lt, show (1000 : Int32).toInt = 1000 by decide]; exact Int.not_lt.mpr j2.1)) (fun _ => ?_)
        refine lv_aload_n hx hb dL_sensors_328 rfl (lv_at hl 6 rfl) ?_
        refine lv_iload_n hx hb dL_sensors_329 rfl (lv_at hl 7 rfl) ?_
        refine lv_iconst (v := 2) hx hb dL_sensors_330 (by decide) ?_
        refine c_iV (v := μ.1 0 (sF k 2)) (P := fun z => Same μ z) (a_s2 s58 h1 hN hk) hw (run_V (As := [.int (nI k), .int 2]) (rest := []) (np := 2) hf hw (k_X7_sensorOf l E _ (nI k) 2) ⟨gl_V q199 q200 q201 q2 q202, by decide +kernel⟩ ⟨rfl, rfl, Nat.le_of_ble_eq_true rfl, Nat.le_of_ble_eq_true rfl⟩ (by decide) (c_O E _) rfl rfl hl.1 rfl (Nat.le_of_ble_eq_true rfl) dL_sensors_331 ⟨Nat.zero_le _, Nat.zero_le _⟩) (fun μ59 H locs s59 hw => ?_)
        refine lv_ldc hx hb hf.2.2.2.1 (hf.2.2.2.2 _ q244) dL_sensors_334 ?_
        refine lv_icmp_gt (tgt := 366) hx hb dL_sensors_336 (by decide) (fun c => absurd c (by rw [Int32.lt_iff_toInt_lt, show (2000000 : Int32).toInt = 2000000 by decide]; exact Int.not_lt.mpr j2.2)) (fun _ => ?_)
        refine lv_aload_n hx hb dL_sensors_339 rfl (lv_at hl 6 rfl) ?_
        refine lv_iload_n hx hb dL_sensors_340 rfl (lv_at hl 7 rfl) ?_
        refine lv_iconst (v := 3) hx hb dL_sensors_341 (by decide) ?_
        refine c_iV (v := μ.1 0 (sF k 3)) (P := fun z => Same μ z) (a_s3 s59 h1 hN hk) hw (run_V (As := [.int (nI k), .int 3]) (rest := []) (np := 2) hf hw (k_X7_sensorOf l E _ (nI k) 3) ⟨gl_V q199 q200 q201 q2 q202, by decide +kernel⟩ ⟨rfl, rfl, Nat.le_of_ble_eq_true rfl, Nat.le_of_ble_eq_true rfl⟩ (by decide) (c_O E _) rfl rfl hl.1 rfl (Nat.le_of_ble_eq_true rfl) dL_sensors_342 ⟨Nat.zero_le _, Nat.zero_le _⟩) (fun μ60 H locs s60 hw => ?_)
        refine lv_sipush (v := 1000) hx hb dL_sensors_345 (by decide) ?_
        refine lv_icmp_lt (tgt := 366) hx hb dL_sensors_348 (by decide) (fun c => absurd c (by rw [Int32.lt_iff_toInt_lt, show (1000 : Int32).toInt = 1000 by decide]; exact Int.not_lt.mpr j3.1)) (fun _ => ?_)
        refine lv_aload_n hx hb dL_sensors_351 rfl (lv_at hl 6 rfl) ?_
        refine lv_iload_n hx hb dL_sensors_352 rfl (lv_at hl 7 rfl) ?_
        refine lv_iconst (v := 3) hx hb dL_sensors_353 (by decide) ?_
        refine c_iV (v := μ.1 0 (sF k 3)) (P := fun z => Same μ z) (a_s3 s60 h1 hN hk) hw (run_V (As := [.int (nI k), .int 3]) (rest := []) (np := 2) hf hw (k_X7_sensorOf l E _ (nI k) 3) ⟨gl_V q199 q200 q201 q2 q202, by decide +kernel⟩ ⟨rfl, rfl, Nat.le_of_ble_eq_true rfl, Nat.le_of_ble_eq_true rfl⟩ (by decide) (c_O E _) rfl rfl hl.1 rfl (Nat.le_of_ble_eq_true rfl) dL_sensors_354 ⟨Nat.zero_le _, Nat.zero_le _⟩) (fun μ61 H locs s61 hw => ?_)
        refine lv_ldc hx hb hf.2.2.2.1 (hf.2.2.2.2 _ q244) dL_sensors_357 ?_
        refine lv_icmp_gt (tgt := 366) hx hb dL_sensors_359 (by decide) (fun c => absurd c (by rw [Int32.lt_iff_toInt_lt, show (2000000 : Int32).toInt = 2000000 by decide]; exact Int.not_lt.mpr j3.2)) (fun _ => ?_)
        refine lv_iconst (v := 1) hx hb dL_sensors_362 (by decide) ?_
        refine lv_goto (tgt := 367) hx hb dL_sensors_363 (by decide) ?_
        exact e_iP hf hr hlocks hw rfl (⟨rfl, s61⟩) dL_sensors_367
      · refine lv_aload_n hx hb dL_sensors_284 rfl (lv_at hl 6 rfl) ?_
        refine lv_iload_n hx hb dL_sensors_285 rfl (lv_at hl 7 rfl) ?_
        refine lv_iconst (v := 5) hx hb dL_sensors_286 (by decide) ?_
        refine c_iV (v := (wop (μ.1 0) k).toInt32) (P := fun z => Same μ z) (a_o5 s55 h1 hN hk) hw (run_V (As := [.int (nI k), .int 5]) (rest := []) (np := 2) hf hw (k_X7_ohms l E _ (nI k) 5) ⟨gl_V q371 q372 q373 q2 q374, by decide +kernel⟩ ⟨rfl, rfl, Nat.le_of_ble_eq_true rfl, Nat.le_of_ble_eq_true rfl⟩ (by decide) (c_O E _) rfl rfl hl.1 rfl (Nat.le_of_ble_eq_true rfl) dL_sensors_287 ⟨Nat.zero_le _, Nat.zero_le _⟩) (fun μ62 H locs s62 hw => ?_)
        refine lv_aload_n hx hb dL_sensors_290 rfl (lv_at hl 6 rfl) ?_
        refine lv_iload_n hx hb dL_sensors_291 rfl (lv_at hl 7 rfl) ?_
        refine lv_iconst (v := 3) hx hb dL_sensors_292 (by decide) ?_
        refine c_iV (v := (cps (μ.1 0) k (cur1 (μ.1 0)).toInt64).toInt32) (P := fun z => Same μ z) (a_o3 s62 h1 hN hk) hw (run_V (As := [.int (nI k), .int 3]) (rest := [.int ((wop (μ.1 0) k).toInt32)]) (np := 2) hf hw (k_X7_ohms l E _ (nI k) 3) ⟨gl_V q371 q372 q373 q2 q374, by decide +kernel⟩ ⟨rfl, rfl, Nat.le_of_ble_eq_true rfl, Nat.le_of_ble_eq_true rfl⟩ (by decide) (c_O E _) rfl rfl hl.1 rfl (Nat.le_of_ble_eq_true rfl) dL_sensors_293 ⟨Nat.zero_le _, Nat.zero_le _⟩) (fun μ63 H locs s63 hw => ?_)
        refine lv_icmp_ne (tgt := 366) hx hb dL_sensors_296 (by decide) (fun c => absurd (congrArg Int64.toInt32 (wop_s z3)) c) (fun _ => ?_)
        refine lv_aload_n hx hb dL_sensors_299 rfl (lv_at hl 6 rfl) ?_
        refine lv_iload_n hx hb dL_sensors_300 rfl (lv_at hl 7 rfl) ?_
        refine lv_bipush (v := 14) hx hb dL_sensors_301 (by decide) ?_
        refine c_iV (v := (-200000)) (P := fun z => Same μ z) (⟨(a_s14 s63 h1 hN hk).1.trans j7, (a_s14 s63 h1 hN hk).2⟩) hw (run_V (As := [.int (nI k), .int 14]) (rest := []) (np := 2) hf hw (k_X7_sensorOf l E _ (nI k) 14) ⟨gl_V q199 q200 q201 q2 q202, by decide +kernel⟩ ⟨rfl, rfl, Nat.le_of_ble_eq_true rfl, Nat.le_of_ble_eq_true rfl⟩ (by decide) (c_O E _) rfl rfl hl.1 rfl (Nat.le_of_ble_eq_true rfl) dL_sensors_303 ⟨Nat.zero_le _, Nat.zero_le _⟩) (fun μ64 H locs s64 hw => ?_)
        refine lv_aload_n hx hb dL_sensors_306 rfl (lv_at hl 6 rfl) ?_
        refine lv_iload_n hx hb dL_sensors_307 rfl (lv_at hl 7 rfl) ?_
        refine lv_bipush (v := 15) hx hb dL_sensors_308 (by decide) ?_
        refine c_iV (v := 850000) (P := fun z => Same μ z) (⟨(a_s15 s64 h1 hN hk).1.trans j8, (a_s15 s64 h1 hN hk).2⟩) hw (run_V (As := [.int (nI k), .int 15]) (rest := [.int (-200000)]) (np := 2) hf hw (k_X7_sensorOf l E _ (nI k) 15) ⟨gl_V q199 q200 q201 q2 q202, by decide +kernel⟩ ⟨rfl, rfl, Nat.le_of_ble_eq_true rfl, Nat.le_of_ble_eq_true rfl⟩ (by decide) (c_O E _) rfl rfl hl.1 rfl (Nat.le_of_ble_eq_true rfl) dL_sensors_310 ⟨Nat.zero_le _, Nat.zero_le _⟩) (fun μ65 H locs s65 hw => ?_)
        refine lv_icmp_gt (tgt := 366) hx hb dL_sensors_313 (by decide) (fun c => absurd c (by decide)) (fun _ => ?_)
        refine lv_aload_n hx hb dL_sensors_316 rfl (lv_at hl 6 rfl) ?_
        refine lv_iload_n hx hb dL_sensors_317 rfl (lv_at hl 7 rfl) ?_
        refine lv_iconst (v := 2) hx hb dL_sensors_318 (by decide) ?_
        refine c_iV (v := μ.1 0 (sF k 2)) (P := fun z => Same μ z) (a_s2 s65 h1 hN hk) hw (run_V (As := [.int (nI k), .int 2]) (rest := []) (np := 2) hf hw (k_X7_sensorOf l E _ (nI k) 2) ⟨gl_V q199 q200 q201 q2 q202, by decide +kernel⟩ ⟨rfl, rfl, Nat.le_of_ble_eq_true rfl, Nat.le_of_ble_eq_true rfl⟩ (by decide) (c_O E _) rfl rfl hl.1 rfl (Nat.le_of_ble_eq_true rfl) dL_sensors_319 ⟨Nat.zero_le _, Nat.zero_le _⟩) (fun μ66 H locs s66 hw => ?_)
        refine lv_sipush (v := 1000) hx hb dL_sensors_322 (by decide) ?_
        refine lv_icmp_lt (tgt := 366) hx hb dL_sensors_325 (by decide) (fun c => absurd c (by rw [Int32.lt_iff_toInt_lt, show (1000 : Int32).toInt = 1000 by decide]; exact Int.not_lt.mpr j2.1)) (fun _ => ?_)
        refine lv_aload_n hx hb dL_sensors_328 rfl (lv_at hl 6 rfl) ?_
        refine lv_iload_n hx hb dL_sensors_329 rfl (lv_at hl 7 rfl) ?_
        refine lv_iconst (v := 2) hx hb dL_sensors_330 (by decide) ?_
        refine c_iV (v := μ.1 0 (sF k 2)) (P := fun z => Same μ z) (a_s2 s66 h1 hN hk) hw (run_V (As := [.int (nI k), .int 2]) (rest := []) (np := 2) hf hw (k_X7_sensorOf l E _ (nI k) 2) ⟨gl_V q199 q200 q201 q2 q202, by decide +kernel⟩ ⟨rfl, rfl, Nat.le_of_ble_eq_true rfl, Nat.le_of_ble_eq_true rfl⟩ (by decide) (c_O E _) rfl rfl hl.1 rfl (Nat.le_of_ble_eq_true rfl) dL_sensors_331 ⟨Nat.zero_le _, Nat.zero_le _⟩) (fun μ67 H locs s67 hw => ?_)
        refine lv_ldc hx hb hf.2.2.2.1 (hf.2.2.2.2 _ q244) dL_sensors_334 ?_
        refine lv_icmp_gt (tgt := 366) hx hb dL_sensors_336 (by decide) (fun c => absurd c (by rw [Int32.lt_iff_toInt_lt, show (2000000 : Int32).toInt = 2000000 by decide]; exact Int.not_lt.mpr j2.2)) (fun _ => ?_)
        refine lv_aload_n hx hb dL_sensors_339 rfl (lv_at hl 6 rfl) ?_
        refine lv_iload_n hx hb dL_sensors_340 rfl (lv_at hl 7 rfl) ?_
        refine lv_iconst (v := 3) hx hb dL_sensors_341 (by decide) ?_
        refine c_iV (v := μ.1 0 (sF k 3)) (P := fun z => Same μ z) (a_s3 s67 h1 hN hk) hw (run_V (As := [.int (nI k), .int 3]) (rest := []) (np := 2) hf hw (k_X7_sensorOf l E _ (nI k) 3) ⟨gl_V q199 q200 q201 q2 q202, by decide +kernel⟩ ⟨rfl, rfl, Nat.le_of_ble_eq_true rfl, Nat.le_of_ble_eq_true rfl⟩ (by decide) (c_O E _) rfl rfl hl.1 rfl (Nat.le_of_ble_eq_true rfl) dL_sensors_342 ⟨Nat.zero_le _, Nat.zero_le _⟩) (fun μ68 H locs s68 hw => ?_)
        refine lv_sipush (v := 1000) hx hb dL_sensors_345 (by decide) ?_
        refine lv_icmp_lt (tgt := 366) hx hb dL_sensors_348 (by decide) (fun c => absurd c (by rw [Int32.lt_iff_toInt_lt, show (1000 : Int32).toInt = 1000 by decide]; exact Int.not_lt.mpr j3.1)) (fun _ => ?_)
        refine lv_aload_n hx hb dL_sensors_351 rfl (lv_at hl 6 rfl) ?_
        refine lv_iload_n hx hb dL_sensors_352 rfl (lv_at hl 7 rfl) ?_
        refine lv_iconst (v := 3) hx hb dL_sensors_353 (by decide) ?_
        refine c_iV (v := μ.1 0 (sF k 3)) (P := fun z => Same μ z) (a_s3 s68 h1 hN hk) hw (run_V (As := [.int (nI k), .int 3]) (rest := []) (np := 2) hf hw (k_X7_sensorOf l E _ (nI k) 3) ⟨gl_V q199 q200 q201 q2 q202, by decide +kernel⟩ ⟨rfl, rfl, Nat.le_of_ble_eq_true rfl, Nat.le_of_ble_eq_true rfl⟩ (by decide) (c_O E _) rfl rfl hl.1 rfl (Nat.le_of_ble_eq_true rfl) dL_sensors_354 ⟨Nat.zero_le _, Nat.zero_le _⟩) (fun μ69 H locs s69 hw => ?_)
        refine lv_ldc hx hb hf.2.2.2.1 (hf.2.2.2.2 _ q244) dL_sensors_357 ?_
        refine lv_icmp_gt (tgt := 366) hx hb dL_sensors_359 (by decide) (fun c => absurd c (by rw [Int32.lt_iff_toInt_lt, show (2000000 : Int32).toInt = 2000000 by decide]; exact Int.not_lt.mpr j3.2)) (fun _ => ?_)
        refine lv_iconst (v := 1) hx hb dL_sensors_362 (by decide) ?_
        refine lv_goto (tgt := 367) hx hb dL_sensors_363 (by decide) ?_
        exact e_iP hf hr hlocks hw rfl (⟨rfl, s69⟩) dL_sensors_367
    · refine lv_aload_n hx hb dL_sensors_242 rfl (lv_at hl 6 rfl) ?_
      refine lv_iload_n hx hb dL_sensors_243 rfl (lv_at hl 7 rfl) ?_
      refine lv_iconst (v := 3) hx hb dL_sensors_244 (by decide) ?_
      refine c_iV (v := (cps (μ.1 0) k (cur1 (μ.1 0)).toInt64).toInt32) (P := fun z => Same μ z) (a_o3 s53 h1 hN hk) hw (run_V (As := [.int (nI k), .int 3]) (rest := []) (np := 2) hf hw (k_X7_ohms l E _ (nI k) 3) ⟨gl_V q371 q372 q373 q2 q374, by decide +kernel⟩ ⟨rfl, rfl, Nat.le_of_ble_eq_true rfl, Nat.le_of_ble_eq_true rfl⟩ (by decide) (c_O E _) rfl rfl hl.1 rfl (Nat.le_of_ble_eq_true rfl) dL_sensors_245 ⟨Nat.zero_le _, Nat.zero_le _⟩) (fun μ70 H locs s70 hw => ?_)
      refine lv_aload_n hx hb dL_sensors_248 rfl (lv_at hl 6 rfl) ?_
      refine lv_iload_n hx hb dL_sensors_249 rfl (lv_at hl 7 rfl) ?_
      refine lv_iconst (v := 2) hx hb dL_sensors_250 (by decide) ?_
      refine c_iV (v := (lpo (μ.1 0) k (cur1 (μ.1 0)).toInt64).toInt32) (P := fun z => Same μ z) (a_o2 s70 h1 hN hk) hw (run_V (As := [.int (nI k), .int 2]) (rest := [.int ((cps (μ.1 0) k (cur1 (μ.1 0)).toInt64).toInt32)]) (np := 2) hf hw (k_X7_ohms l E _ (nI k) 2) ⟨gl_V q371 q372 q373 q2 q374, by decide +kernel⟩ ⟨rfl, rfl, Nat.le_of_ble_eq_true rfl, Nat.le_of_ble_eq_true rfl⟩ (by decide) (c_O E _) rfl rfl hl.1 rfl (Nat.le_of_ble_eq_true rfl) dL_sensors_251 ⟨Nat.zero_le _, Nat.zero_le _⟩) (fun μ71 H locs s71 hw => ?_)
      refine lv_icmp_ne (tgt := 261) hx hb dL_sensors_254 (by decide) (fun c => absurd (congrArg Int64.toInt32 (cps_l (by rw [j1]; exact z2))) c) (fun _ => ?_)
      refine lv_iconst (v := 1) hx hb dL_sensors_257 (by decide) ?_
      refine lv_goto (tgt := 262) hx hb dL_sensors_258 (by decide) ?_
      refine lv_istore (lv' := [(5, .int 1), (7, .int ((oth (μ.1 0) k (μ.1 0 4).toInt64).toInt32)), (6, .int ((one (μ.1 0) k (μ.1 0 4).toInt64).toInt32)), (4, .int (nI (k % 3 * 10 + k / 3))), (3, .int (4 <<< ((μ.1 0 6) &&& 31))), (2, .int (nI (2 + k % 3))), (0, .ref (E.1 231)), (1, .int (nI k))]) hx hb dL_sensors_262 hl (by decide) rfl (fun ls hl => ?_)
      refine lv_iload hx hb dL_sensors_264 (lv_at hl 0 rfl) ?_
      refine lv_if_eq (tgt := 366) hx hb dL_sensors_266 (by decide) (fun c => absurd c (by decide)) (fun _ => ?_)
      refine lv_aload_n hx hb dL_sensors_269 rfl (lv_at hl 6 rfl) ?_
      refine lv_bipush (v := 21) hx hb dL_sensors_270 (by decide) ?_
      refine c_iV (v := μ.1 0 4) (P := fun z => Same μ z) (a_c21 s71) hw (run_V (As := [.int 21]) (rest := []) (np := 1) hf hw (k_X7_count l E _ 21) ⟨gl_V q98 q99 q100 q2 q101, by decide +kernel⟩ ⟨rfl, rfl, Nat.le_of_ble_eq_true rfl, Nat.le_of_ble_eq_true rfl⟩ (by decide) (c_O E _) rfl rfl hl.1 rfl (Nat.le_of_ble_eq_true rfl) dL_sensors_272 ⟨Nat.zero_le _, Nat.zero_le _⟩) (fun μ72 H locs s72 hw => ?_)
      refine lv_aload_n hx hb dL_sensors_275 rfl (lv_at hl 6 rfl) ?_
      refine lv_bipush (v := 22) hx hb dL_sensors_276 (by decide) ?_
      refine c_iV (v := μ.1 0 5) (P := fun z => Same μ z) (a_c22 s72) hw (run_V (As := [.int 22]) (rest := [.int (μ.1 0 4)]) (np := 1) hf hw (k_X7_count l E _ 22) ⟨gl_V q98 q99 q100 q2 q101, by decide +kernel⟩ ⟨rfl, rfl, Nat.le_of_ble_eq_true rfl, Nat.le_of_ble_eq_true rfl⟩ (by decide) (c_O E _) rfl rfl hl.1 rfl (Nat.le_of_ble_eq_true rfl) dL_sensors_278 ⟨Nat.zero_le _, Nat.zero_le _⟩) (fun μ73 H locs s73 hw => ?_)
      refine lv_icmp_ne (tgt := 299) hx hb dL_sensors_281 (by decide) (fun z3 => ?_) (fun z3 => ?_)
      · refine lv_aload_n hx hb dL_sensors_299 rfl (lv_at hl 6 rfl) ?_
        refine lv_iload_n hx hb dL_sensors_300 rfl (lv_at hl 7 rfl) ?_
        refine lv_bipush (v := 14) hx hb dL_sensors_301 (by decide) ?_
        refine c_iV (v := (-200000)) (P := fun z => Same μ z) (⟨(a_s14 s73 h1 hN hk).1.trans j7, (a_s14 s73 h1 hN hk).2⟩) hw (run_V (As := [.int (nI k), .int 14]) (rest := []) (np := 2) hf hw (k_X7_sensorOf l E _ (nI k) 14) ⟨gl_V q199 q200 q201 q2 q202, by decide +kernel⟩ ⟨rfl, rfl, Nat.le_of_ble_eq_true rfl, Nat.le_of_ble_eq_true rfl⟩ (by decide) (c_O E _) rfl rfl hl.1 rfl (Nat.le_of_ble_eq_true rfl) dL_sensors_303 ⟨Nat.zero_le _, Nat.zero_le _⟩) (fun μ74 H locs s74 hw => ?_)
        refine lv_aload_n hx hb dL_sensors_306 rfl (lv_at hl 6 rfl) ?_
        refine lv_iload_n hx hb dL_sensors_307 rfl (lv_at hl 7 rfl) ?_
        refine lv_bipush (v := 15) hx hb dL_sensors_308 (by decide) ?_
        refine c_iV (v := 850000) (P := fun z => Same μ z) (⟨(a_s15 s74 h1 hN hk).1.trans j8, (a_s15 s74 h1 hN hk).2⟩) hw (run_V (As := [.int (nI k), .int 15]) (rest := [.int (-200000)]) (np := 2) hf hw (k_X7_sensorOf l E _ (nI k) 15) ⟨gl_V q199 q200 q201 q2 q202, by decide +kernel⟩ ⟨rfl, rfl, Nat.le_of_ble_eq_true rfl, Nat.le_of_ble_eq_true rfl⟩ (by decide) (c_O E _) rfl rfl hl.1 rfl (Nat.le_of_ble_eq_true rfl) dL_sensors_310 ⟨Nat.zero_le _, Nat.zero_le _⟩) (fun μ75 H locs s75 hw => ?_)
        refine lv_icmp_gt (tgt := 366) hx hb dL_sensors_313 (by decide) (fun c => absurd c (by decide)) (fun _ => ?_)
        refine lv_aload_n hx hb dL_sensors_316 rfl (lv_at hl 6 rfl) ?_
        refine lv_iload_n hx hb dL_sensors_317 rfl (lv_at hl 7 rfl) ?_
        refine lv_iconst (v := 2) hx hb dL_sensors_318 (by decide) ?_
        refine c_iV (v := μ.1 0 (sF k 2)) (P := fun z => Same μ z) (a_s2 s75 h1 hN hk) hw (run_V (As := [.int (nI k), .int 2]) (rest := []) (np := 2) hf hw (k_X7_sensorOf l E _ (nI k) 2) ⟨gl_V q199 q200 q201 q2 q202, by decide +kernel⟩ ⟨rfl, rfl, Nat.le_of_ble_eq_true rfl, Nat.le_of_ble_eq_true rfl⟩ (by decide) (c_O E _) rfl rfl hl.1 rfl (Nat.le_of_ble_eq_true rfl) dL_sensors_319 ⟨Nat.zero_le _, Nat.zero_le _⟩) (fun μ76 H locs s76 hw => ?_)
        refine lv_sipush (v := 1000) hx hb dL_sensors_322 (by decide) ?_
        refine lv_icmp_lt (tgt := 366) hx hb dL_sensors_325 (by decide) (fun c => absurd c (by rw [Int32.lt_iff_toInt_lt, show (1000 : Int32).toInt = 1000 by decide]; exact Int.not_lt.mpr j2.1)) (fun _ => ?_)
        refine lv_aload_n hx hb dL_sensors_328 rfl (lv_at hl 6 rfl) ?_
        refine lv_iload_n hx hb dL_sensors_329 rfl (lv_at hl 7 rfl) ?_
        refine lv_iconst (v := 2) hx hb dL_sensors_330 (by decide) ?_
        refine c_iV (v := μ.1 0 (sF k 2)) (P := fun z => Same μ z) (a_s2 s76 h1 hN hk) hw (run_V (As := [.int (nI k), .int 2]) (rest := []) (np := 2) hf hw (k_X7_sensorOf l E _ (nI k) 2) ⟨gl_V q199 q200 q201 q2 q202, by decide +kernel⟩ ⟨rfl, rfl, Nat.le_of_ble_eq_true rfl, Nat.le_of_ble_eq_true rfl⟩ (by decide) (c_O E _) rfl rfl hl.1 rfl (Nat.le_of_ble_eq_true rfl) dL_sensors_331 ⟨Nat.zero_le _, Nat.zero_le _⟩) (fun μ77 H locs s77 hw => ?_)
        refine lv_ldc hx hb hf.2.2.2.1 (hf.2.2.2.2 _ q244) dL_sensors_334 ?_
        refine lv_icmp_gt (tgt := 366) hx hb dL_sensors_336 (by decide) (fun c => absurd c (by rw [Int32.lt_iff_toInt_lt, show (2000000 : Int32).toInt = 2000000 by decide]; exact Int.not_lt.mpr j2.2)) (fun _ => ?_)
        refine lv_aload_n hx hb dL_sensors_339 rfl (lv_at hl 6 rfl) ?_
        refine lv_iload_n hx hb dL_sensors_340 rfl (lv_at hl 7 rfl) ?_
        refine lv_iconst (v := 3) hx hb dL_sensors_341 (by decide) ?_
        refine c_iV (v := μ.1 0 (sF k 3)) (P := fun z => Same μ z) (a_s3 s77 h1 hN hk) hw (run_V (As := [.int (nI k), .int 3]) (rest := []) (np := 2) hf hw (k_X7_sensorOf l E _ (nI k) 3) ⟨gl_V q199 q200 q201 q2 q202, by decide +kernel⟩ ⟨rfl, rfl, Nat.le_of_ble_eq_true rfl, Nat.le_of_ble_eq_true rfl⟩ (by decide) (c_O E _) rfl rfl hl.1 rfl (Nat.le_of_ble_eq_true rfl) dL_sensors_342 ⟨Nat.zero_le _, Nat.zero_le _⟩) (fun μ78 H locs s78 hw => ?_)
        refine lv_sipush (v := 1000) hx hb dL_sensors_345 (by decide) ?_
        refine lv_icmp_lt (tgt := 366) hx hb dL_sensors_348 (by decide) (fun c => absurd c (by rw [Int32.lt_iff_toInt_lt, show (1000 : Int32).toInt = 1000 by decide]; exact Int.not_lt.mpr j3.1)) (fun _ => ?_)
        refine lv_aload_n hx hb dL_sensors_351 rfl (lv_at hl 6 rfl) ?_
        refine lv_iload_n hx hb dL_sensors_352 rfl (lv_at hl 7 rfl) ?_
        refine lv_iconst (v := 3) hx hb dL_sensors_353 (by decide) ?_
        refine c_iV (v := μ.1 0 (sF k 3)) (P := fun z => Same μ z) (a_s3 s78 h1 hN hk) hw (run_V (As := [.int (nI k), .int 3]) (rest := []) (np := 2) hf hw (k_X7_sensorOf l E _ (nI k) 3) ⟨gl_V q199 q200 q201 q2 q202, by decide +kernel⟩ ⟨rfl, rfl, Nat.le_of_ble_eq_true rfl, Nat.le_of_ble_eq_true rfl⟩ (by decide) (c_O E _) rfl rfl hl.1 rfl (Nat.le_of_ble_eq_true rfl) dL_sensors_354 ⟨Nat.zero_le _, Nat.zero_le _⟩) (fun μ79 H locs s79 hw => ?_)
        refine lv_ldc hx hb hf.2.2.2.1 (hf.2.2.2.2 _ q244) dL_sensors_357 ?_
        refine lv_icmp_gt (tgt := 366) hx hb dL_sensors_359 (by decide) (fun c => absurd c (by rw [Int32.lt_iff_toInt_lt, show (2000000 : Int32).toInt = 2000000 by decide]; exact Int.not_lt.mpr j3.2)) (fun _ => ?_)
        refine lv_iconst (v := 1) hx hb dL_sensors_362 (by decide) ?_
        refine lv_goto (tgt := 367) hx hb dL_sensors_363 (by decide) ?_
        exact e_iP hf hr hlocks hw rfl (⟨rfl, s79⟩) dL_sensors_367
      · refine lv_aload_n hx hb dL_sensors_284 rfl (lv_at hl 6 rfl) ?_
        refine lv_iload_n hx hb dL_sensors_285 rfl (lv_at hl 7 rfl) ?_
        refine lv_iconst (v := 5) hx hb dL_sensors_286 (by decide) ?_
        refine c_iV (v := (wop (μ.1 0) k).toInt32) (P := fun z => Same μ z) (a_o5 s73 h1 hN hk) hw (run_V (As := [.int (nI k), .int 5]) (rest := []) (np := 2) hf hw (k_X7_ohms l E _ (nI k) 5) ⟨gl_V q371 q372 q373 q2 q374, by decide +kernel⟩ ⟨rfl, rfl, Nat.le_of_ble_eq_true rfl, Nat.le_of_ble_eq_true rfl⟩ (by decide) (c_O E _) rfl rfl hl.1 rfl (Nat.le_of_ble_eq_true rfl) dL_sensors_287 ⟨Nat.zero_le _, Nat.zero_le _⟩) (fun μ80 H locs s80 hw => ?_)
        refine lv_aload_n hx hb dL_sensors_290 rfl (lv_at hl 6 rfl) ?_
        refine lv_iload_n hx hb dL_sensors_291 rfl (lv_at hl 7 rfl) ?_
        refine lv_iconst (v := 3) hx hb dL_sensors_292 (by decide) ?_
        refine c_iV (v := (cps (μ.1 0) k (cur1 (μ.1 0)).toInt64).toInt32) (P := fun z => Same μ z) (a_o3 s80 h1 hN hk) hw (run_V (As := [.int (nI k), .int 3]) (rest := [.int ((wop (μ.1 0) k).toInt32)]) (np := 2) hf hw (k_X7_ohms l E _ (nI k) 3) ⟨gl_V q371 q372 q373 q2 q374, by decide +kernel⟩ ⟨rfl, rfl, Nat.le_of_ble_eq_true rfl, Nat.le_of_ble_eq_true rfl⟩ (by decide) (c_O E _) rfl rfl hl.1 rfl (Nat.le_of_ble_eq_true rfl) dL_sensors_293 ⟨Nat.zero_le _, Nat.zero_le _⟩) (fun μ81 H locs s81 hw => ?_)
        refine lv_icmp_ne (tgt := 366) hx hb dL_sensors_296 (by decide) (fun c => absurd (congrArg Int64.toInt32 (wop_s z3)) c) (fun _ => ?_)
        refine lv_aload_n hx hb dL_sensors_299 rfl (lv_at hl 6 rfl) ?_
        refine lv_iload_n hx hb dL_sensors_300 rfl (lv_at hl 7 rfl) ?_
        refine lv_bipush (v := 14) hx hb dL_sensors_301 (by decide) ?_
        refine c_iV (v := (-200000)) (P := fun z => Same μ z) (⟨(a_s14 s81 h1 hN hk).1.trans j7, (a_s14 s81 h1 hN hk).2⟩) hw (run_V (As := [.int (nI k), .int 14]) (rest := []) (np := 2) hf hw (k_X7_sensorOf l E _ (nI k) 14) ⟨gl_V q199 q200 q201 q2 q202, by decide +kernel⟩ ⟨rfl, rfl, Nat.le_of_ble_eq_true rfl, Nat.le_of_ble_eq_true rfl⟩ (by decide) (c_O E _) rfl rfl hl.1 rfl (Nat.le_of_ble_eq_true rfl) dL_sensors_303 ⟨Nat.zero_le _, Nat.zero_le _⟩) (fun μ82 H locs s82 hw => ?_)
        refine lv_aload_n hx hb dL_sensors_306 rfl (lv_at hl 6 rfl) ?_
        refine lv_iload_n hx hb dL_sensors_307 rfl (lv_at hl 7 rfl) ?_
        refine lv_bipush (v := 15) hx hb dL_sensors_308 (by decide) ?_
        refine c_iV (v := 850000) (P := fun z => Same μ z) (⟨(a_s15 s82 h1 hN hk).1.trans j8, (a_s15 s82 h1 hN hk).2⟩) hw (run_V (As := [.int (nI k), .int 15]) (rest := [.int (-200000)]) (np := 2) hf hw (k_X7_sensorOf l E _ (nI k) 15) ⟨gl_V q199 q200 q201 q2 q202, by decide +kernel⟩ ⟨rfl, rfl, Nat.le_of_ble_eq_true rfl, Nat.le_of_ble_eq_true rfl⟩ (by decide) (c_O E _) rfl rfl hl.1 rfl (Nat.le_of_ble_eq_true rfl) dL_sensors_310 ⟨Nat.zero_le _, Nat.zero_le _⟩) (fun μ83 H locs s83 hw => ?_)
        refine lv_icmp_gt (tgt := 366) hx hb dL_sensors_313 (by decide) (fun c => absurd c (by decide)) (fun _ => ?_)
        refine lv_aload_n hx hb dL_sensors_316 rfl (lv_at hl 6 rfl) ?_
        refine lv_iload_n hx hb dL_sensors_317 rfl (lv_at hl 7 rfl) ?_
        refine lv_iconst (v := 2) hx hb dL_sensors_318 (by decide) ?_
        refine c_iV (v := μ.1 0 (sF k 2)) (P := fun z => Same μ z) (a_s2 s83 h1 hN hk) hw (run_V (As := [.int (nI k), .int 2]) (rest := []) (np := 2) hf hw (k_X7_sensorOf l E _ (nI k) 2) ⟨gl_V q199 q200 q201 q2 q202, by decide +kernel⟩ ⟨rfl, rfl, Nat.le_of_ble_eq_true rfl, Nat.le_of_ble_eq_true rfl⟩ (by decide) (c_O E _) rfl rfl hl.1 rfl (Nat.le_of_ble_eq_true rfl) dL_sensors_319 ⟨Nat.zero_le _, Nat.zero_le _⟩) (fun μ84 H locs s84 hw => ?_)
        refine lv_sipush (v := 1000) hx hb dL_sensors_322 (by decide) ?_
        refine lv_icmp_lt (tgt := 366) hx hb dL_sensors_325 (by decide) (fun c => absurd c (by rw [Int32.lt_iff_toInt_lt, show (1000 : Int32).toInt = 1000 by decide]; exact Int.not_lt.mpr j2.1)) (fun _ => ?_)
        refine lv_aload_n hx hb dL_sensors_328 rfl (lv_at hl 6 rfl) ?_
        refine lv_iload_n hx hb dL_sensors_329 rfl (lv_at hl 7 rfl) ?_
        refine lv_iconst (v := 2) hx hb dL_sensors_330 (by decide) ?_
        refine c_iV (v := μ.1 0 (sF k 2)) (P := fun z => Same μ z) (a_s2 s84 h1 hN hk) hw (run_V (As := [.int (nI k), .int 2]) (rest := []) (np := 2) hf hw (k_X7_sensorOf l E _ (nI k) 2) ⟨gl_V q199 q200 q201 q2 q202, by decide +kernel⟩ ⟨rfl, rfl, Nat.le_of_ble_eq_true rfl, Nat.le_of_ble_eq_true rfl⟩ (by decide) (c_O E _) rfl rfl hl.1 rfl (Nat.le_of_ble_eq_true rfl) dL_sensors_331 ⟨Nat.zero_le _, Nat.zero_le _⟩) (fun μ85 H locs s85 hw => ?_)
        refine lv_ldc hx hb hf.2.2.2.1 (hf.2.2.2.2 _ q244) dL_sensors_334 ?_
        refine lv_icmp_gt (tgt := 366) hx hb dL_sensors_336 (by decide) (fun c => absurd c (by rw [Int32.lt_iff_toInt_lt, show (2000000 : Int32).toInt = 2000000 by decide]; exact Int.not_lt.mpr j2.2)) (fun _ => ?_)
        refine lv_aload_n hx hb dL_sensors_339 rfl (lv_at hl 6 rfl) ?_
        refine lv_iload_n hx hb dL_sensors_340 rfl (lv_at hl 7 rfl) ?_
        refine lv_iconst (v := 3) hx hb dL_sensors_341 (by decide) ?_
        refine c_iV (v := μ.1 0 (sF k 3)) (P := fun z => Same μ z) (a_s3 s85 h1 hN hk) hw (run_V (As := [.int (nI k), .int 3]) (rest := []) (np := 2) hf hw (k_X7_sensorOf l E _ (nI k) 3) ⟨gl_V q199 q200 q201 q2 q202, by decide +kernel⟩ ⟨rfl, rfl, Nat.le_of_ble_eq_true rfl, Nat.le_of_ble_eq_true rfl⟩ (by decide) (c_O E _) rfl rfl hl.1 rfl (Nat.le_of_ble_eq_true rfl) dL_sensors_342 ⟨Nat.zero_le _, Nat.zero_le _⟩) (fun μ86 H locs s86 hw => ?_)
        refine lv_sipush (v := 1000) hx hb dL_sensors_345 (by decide) ?_
        refine lv_icmp_lt (tgt := 366) hx hb dL_sensors_348 (by decide) (fun c => absurd c (by rw [Int32.lt_iff_toInt_lt, show (1000 : Int32).toInt = 1000 by decide]; exact Int.not_lt.mpr j3.1)) (fun _ => ?_)
        refine lv_aload_n hx hb dL_sensors_351 rfl (lv_at hl 6 rfl) ?_
        refine lv_iload_n hx hb dL_sensors_352 rfl (lv_at hl 7 rfl) ?_
        refine lv_iconst (v := 3) hx hb dL_sensors_353 (by decide) ?_
        refine c_iV (v := μ.1 0 (sF k 3)) (P := fun z => Same μ z) (a_s3 s86 h1 hN hk) hw (run_V (As := [.int (nI k), .int 3]) (rest := []) (np := 2) hf hw (k_X7_sensorOf l E _ (nI k) 3) ⟨gl_V q199 q200 q201 q2 q202, by decide +kernel⟩ ⟨rfl, rfl, Nat.le_of_ble_eq_true rfl, Nat.le_of_ble_eq_true rfl⟩ (by decide) (c_O E _) rfl rfl hl.1 rfl (Nat.le_of_ble_eq_true rfl) dL_sensors_354 ⟨Nat.zero_le _, Nat.zero_le _⟩) (fun μ87 H locs s87 hw => ?_)
        refine lv_ldc hx hb hf.2.2.2.1 (hf.2.2.2.2 _ q244) dL_sensors_357 ?_
        refine lv_icmp_gt (tgt := 366) hx hb dL_sensors_359 (by decide) (fun c => absurd c (by rw [Int32.lt_iff_toInt_lt, show (2000000 : Int32).toInt = 2000000 by decide]; exact Int.not_lt.mpr j3.2)) (fun _ => ?_)
        refine lv_iconst (v := 1) hx hb dL_sensors_362 (by decide) ?_
        refine lv_goto (tgt := 367) hx hb dL_sensors_363 (by decide) ?_
        exact e_iP hf hr hlocks hw rfl (⟨rfl, s87⟩) dL_sensors_367
