/-! ===== the law: tables ===== -/
set_option maxHeartbeats 8000000 in
set_option maxRecDepth 100000 in
theorem k_L_tables (l : Launch) (E : En) (μ : Mu) {T N B t : Nat} (h : Gd (μ.1 0) T N B) (ht : t < T) {y : Int32} (hy : 0 ≤ y.toInt) : MtP l yL_tables cL_tables 11 .boolean ({ frames := 4, cells := 0, slots := 0, locals := 89 }) [.ref (E.1 231), .int (nI t), .int y] E μ (fun r u => r = 1 ∧ Same μ u) := by
  refine mt_of (by decide +kernel) (Nat.le_of_ble_eq_true rfl) ?_
  intro p e s m args below meth c ls hf hr hlocks hl hw
  have hx := hf.1
  have hb := hf.2.1
  have hl : lv_has ls 11 [(0, .ref (E.1 231)), (1, .int (nI t)), (2, .int y)] := hl
  have hT := h.2.2.2.1 t ht
  have n0 := (tb_asc hT).d0 (k := 0) (by decide)
  have c0 := hT.2.2 0 (by decide)
  have n1 := (tb_asc hT).d0 (k := 1) (by decide)
  have c1 := hT.2.2 1 (by decide)
  have n2 := (tb_asc hT).d0 (k := 2) (by decide)
  have c2 := hT.2.2 2 (by decide)
  have n3 := (tb_asc hT).d0 (k := 3) (by decide)
  have c3 := hT.2.2 3 (by decide)
  have d0 := hT.2.1 0 (by decide)
  have d1 := hT.2.1 1 (by decide)
  have d2 := hT.2.1 2 (by decide)
  have d03 : (μ.1 0 (tD t 0)).toInt ≤ (μ.1 0 (tD t 3)).toInt := n3.1
  have u0 : (μ.1 0 (tD t 0)).toInt = dI (μ.1 0) t 0 := rfl
  have u3 : (μ.1 0 (tD t 3)).toInt = dI (μ.1 0) t 3 := rfl
  refine lv_aload_n hx hb dL_tables_0 rfl (lv_at hl 0 rfl) ?_
  refine lv_bipush (v := 10) hx hb dL_tables_1 (by decide) ?_
  refine lv_iload_n hx hb dL_tables_3 rfl (lv_at hl 1 rfl) ?_
  refine lv_iadd hx hb dL_tables_4 ?_
  refine fold_i (show (10 + nI t : Int32) = nI (10 + t) from nI_add 10 t) ?_
  refine c_iV (v := 4) (P := fun z => Same μ z) (a_ct Same.rf h ht) hw (run_V (As := [.int (nI (10 + t))]) (rest := []) (np := 1) hf hw (k_X7_count l E _ (nI (10 + t))) ⟨gl_V q98 q99 q100 q2 q101, by decide +kernel⟩ ⟨rfl, rfl, Nat.le_of_ble_eq_true rfl, Nat.le_of_ble_eq_true rfl⟩ (by decide) (c_O E _) rfl rfl hl.1 rfl (Nat.le_of_ble_eq_true rfl) dL_tables_5 ⟨Nat.zero_le _, Nat.zero_le _⟩) (fun μ1 H locs s1 hw => ?_)
  refine lv_istore_n (lv' := [(3, .int 4), (0, .ref (E.1 231)), (1, .int (nI t)), (2, .int y)]) hx hb dL_tables_8 rfl hl (by decide) rfl (fun ls hl => ?_)
  refine lv_iconst (v := 1) hx hb dL_tables_9 (by decide) ?_
  refine lv_istore (lv' := [(4, .int 1), (3, .int 4), (0, .ref (E.1 231)), (1, .int (nI t)), (2, .int y)]) hx hb dL_tables_10 hl (by decide) rfl (fun ls hl => ?_)
  refine lv_iconst (v := 0) hx hb dL_tables_12 (by decide) ?_
  refine lv_istore (lv' := [(5, .int 0), (4, .int 1), (3, .int 4), (0, .ref (E.1 231)), (1, .int (nI t)), (2, .int y)]) hx hb dL_tables_13 hl (by decide) rfl (fun ls hl => ?_)
  refine lv_iload hx hb dL_tables_15 (lv_at hl 0 rfl) ?_
  refine lv_iload_n hx hb dL_tables_17 rfl (lv_at hl 2 rfl) ?_
  refine lv_icmp_ge (tgt := 123) hx hb dL_tables_18 (by decide) (fun c => absurd c (by decide)) (fun _ => ?_)
  refine lv_iload hx hb dL_tables_21 (lv_at hl 1 rfl) ?_
  refine lv_if_eq (tgt := 123) hx hb dL_tables_23 (by decide) (fun c => absurd c (by decide)) (fun _ => ?_)
  refine lv_iload_n hx hb dL_tables_26 rfl (lv_at hl 2 rfl) ?_
  refine lv_iconst (v := 1) hx hb dL_tables_27 (by decide) ?_
  refine lv_icmp_le (tgt := 123) hx hb dL_tables_28 (by decide) (fun c => absurd c (by decide)) (fun _ => ?_)
  refine lv_aload_n hx hb dL_tables_31 rfl (lv_at hl 3 rfl) ?_
  refine lv_iload_n hx hb dL_tables_32 rfl (lv_at hl 4 rfl) ?_
  refine lv_iload hx hb dL_tables_33 (lv_at hl 0 rfl) ?_
  refine lv_iconst (v := 0) hx hb dL_tables_35 (by decide) ?_
  refine c_iV (v := μ.1 0 (tD t 0)) (P := fun z => Same μ z) (a_n0 s1 h ht 0 (by decide)) hw (run_V (As := [.int (nI t), .int 0, .int 0]) (rest := []) (np := 3) hf hw (k_X7_nodeAt l E _ (nI t) 0 0) ⟨gl_V q156 q157 q158 q2 q159, by decide +kernel⟩ ⟨rfl, rfl, Nat.le_of_ble_eq_true rfl, Nat.le_of_ble_eq_true rfl⟩ (by decide) (c_O E _) rfl rfl hl.1 rfl (Nat.le_of_ble_eq_true rfl) dL_tables_36 ⟨Nat.zero_le _, Nat.zero_le _⟩) (fun μ2 H locs s2 hw => ?_)
  refine lv_istore (lv' := [(6, .int (μ.1 0 (tD t 0))), (5, .int 0), (4, .int 1), (3, .int 4), (0, .ref (E.1 231)), (1, .int (nI t)), (2, .int y)]) hx hb dL_tables_39 hl (by decide) rfl (fun ls hl => ?_)
  refine lv_aload_n hx hb dL_tables_41 rfl (lv_at hl 4 rfl) ?_
  refine lv_iload_n hx hb dL_tables_42 rfl (lv_at hl 5 rfl) ?_
  refine lv_iload hx hb dL_tables_43 (lv_at hl 1 rfl) ?_
  refine lv_iconst (v := 1) hx hb dL_tables_45 (by decide) ?_
  refine c_iV (v := μ.1 0 (tR t 0)) (P := fun z => Same μ z) (a_n1 s2 h ht 0 (by decide)) hw (run_V (As := [.int (nI t), .int 0, .int 1]) (rest := []) (np := 3) hf hw (k_X7_nodeAt l E _ (nI t) 0 1) ⟨gl_V q156 q157 q158 q2 q159, by decide +kernel⟩ ⟨rfl, rfl, Nat.le_of_ble_eq_true rfl, Nat.le_of_ble_eq_true rfl⟩ (by decide) (c_O E _) rfl rfl hl.1 rfl (Nat.le_of_ble_eq_true rfl) dL_tables_46 ⟨Nat.zero_le _, Nat.zero_le _⟩) (fun μ3 H locs s3 hw => ?_)
  refine lv_istore (lv' := [(7, .int (μ.1 0 (tR t 0))), (6, .int (μ.1 0 (tD t 0))), (5, .int 0), (4, .int 1), (3, .int 4), (0, .ref (E.1 231)), (1, .int (nI t)), (2, .int y)]) hx hb dL_tables_49 hl (by decide) rfl (fun ls hl => ?_)
  refine lv_aload_n hx hb dL_tables_51 rfl (lv_at hl 5 rfl) ?_
  refine lv_iload_n hx hb dL_tables_52 rfl (lv_at hl 6 rfl) ?_
  refine lv_iload hx hb dL_tables_53 (lv_at hl 1 rfl) ?_
  refine c_iV (v := sp_X5_ratioAt (μ.1 0) t (μ.1 0 (tD t 0))) (P := fun z => Same μ z) (a_ra (w := μ.1 0 (tD t 0)) s3 h ht n0.1 n0.2.1) hw (run_V (As := [.int (nI t), .int (μ.1 0 (tD t 0))]) (rest := []) (np := 2) hf hw (k_X7_ratio l E _ (nI t) (μ.1 0 (tD t 0))) ⟨gl_V q168 q169 q170 q2 q171, by decide +kernel⟩ ⟨rfl, rfl, Nat.le_of_ble_eq_true rfl, Nat.le_of_ble_eq_true rfl⟩ (by decide) (c_O E _) rfl rfl hl.1 rfl (Nat.le_of_ble_eq_true rfl) dL_tables_55 ⟨Nat.zero_le _, Nat.zero_le _⟩) (fun μ4 H locs s4 hw => ?_)
  refine lv_iload hx hb dL_tables_58 (lv_at hl 0 rfl) ?_
  refine lv_icmp_ne (tgt := 114) hx hb dL_tables_60 (by decide) (fun c => absurd (rat_nd hT (k := 0) (by decide)) c) (fun _ => ?_)
  refine lv_aload_n hx hb dL_tables_63 rfl (lv_at hl 5 rfl) ?_
  refine lv_iload_n hx hb dL_tables_64 rfl (lv_at hl 6 rfl) ?_
  refine lv_iload hx hb dL_tables_65 (lv_at hl 0 rfl) ?_
  refine c_iV (v := sp_X5_temperatureFor (μ.1 0) t (μ.1 0 (tR t 0)).toInt64) (P := fun z => Same μ z) (a_iv (w := μ.1 0 (tR t 0)) s4 h ht ⟨c0.2.2.1, c0.2.2.2⟩) hw (run_V (As := [.int (nI t), .int (μ.1 0 (tR t 0))]) (rest := []) (np := 2) hf hw (k_X7_inverse l E _ (nI t) (μ.1 0 (tR t 0))) ⟨gl_V q187 q188 q189 q2 q190, by decide +kernel⟩ ⟨rfl, rfl, Nat.le_of_ble_eq_true rfl, Nat.le_of_ble_eq_true rfl⟩ (by decide) (c_O E _) rfl rfl hl.1 rfl (Nat.le_of_ble_eq_true rfl) dL_tables_67 ⟨Nat.zero_le _, Nat.zero_le _⟩) (fun μ5 H locs s5 hw => ?_)
  refine lv_iload hx hb dL_tables_70 (lv_at hl 1 rfl) ?_
  refine lv_icmp_ne (tgt := 114) hx hb dL_tables_72 (by decide) (fun c => absurd (inv_nd hT (k := 0) (by decide)) c) (fun _ => ?_)
  refine lv_iload hx hb dL_tables_75 (lv_at hl 2 rfl) ?_
  refine lv_if_eq (tgt := 110) hx hb dL_tables_77 (by decide) (fun _ => ?_) (fun c => absurd (by decide) c)
  refine lv_iconst (v := 1) hx hb dL_tables_110 (by decide) ?_
  refine lv_goto (tgt := 115) hx hb dL_tables_111 (by decide) ?_
  refine lv_istore (lv' := [(4, .int 1), (7, .int (μ.1 0 (tR t 0))), (6, .int (μ.1 0 (tD t 0))), (5, .int 0), (3, .int 4), (0, .ref (E.1 231)), (1, .int (nI t)), (2, .int y)]) hx hb dL_tables_115 hl (by decide) rfl (fun ls hl => ?_)
  refine lv_iinc (v := 1) (lv' := [(5, .int 1), (4, .int 1), (7, .int (μ.1 0 (tR t 0))), (6, .int (μ.1 0 (tD t 0))), (3, .int 4), (0, .ref (E.1 231)), (1, .int (nI t)), (2, .int y)]) hx hb dL_tables_117 hl (k := 3) rfl (by decide) (by decide) rfl (fun ls hl => ?_)
  refine lv_goto (tgt := 15) hx hb dL_tables_120 (by decide) ?_
  refine lv_iload hx hb dL_tables_15 (lv_at hl 0 rfl) ?_
  refine lv_iload_n hx hb dL_tables_17 rfl (lv_at hl 4 rfl) ?_
  refine lv_icmp_ge (tgt := 123) hx hb dL_tables_18 (by decide) (fun c => absurd c (by decide)) (fun _ => ?_)
  refine lv_iload hx hb dL_tables_21 (lv_at hl 1 rfl) ?_
  refine lv_if_eq (tgt := 123) hx hb dL_tables_23 (by decide) (fun c => absurd c (by decide)) (fun _ => ?_)
  refine lv_iload_n hx hb dL_tables_26 rfl (lv_at hl 4 rfl) ?_
  refine lv_iconst (v := 1) hx hb dL_tables_27 (by decide) ?_
  refine lv_icmp_le (tgt := 123) hx hb dL_tables_28 (by decide) (fun c => absurd c (by decide)) (fun _ => ?_)
  refine lv_aload_n hx hb dL_tables_31 rfl (lv_at hl 5 rfl) ?_
  refine lv_iload_n hx hb dL_tables_32 rfl (lv_at hl 6 rfl) ?_
  refine lv_iload hx hb dL_tables_33 (lv_at hl 0 rfl) ?_
  refine lv_iconst (v := 0) hx hb dL_tables_35 (by decide) ?_
  refine c_iV (v := μ.1 0 (tD t 1)) (P := fun z => Same μ z) (a_n0 s5 h ht 1 (by decide)) hw (run_V (As := [.int (nI t), .int 1, .int 0]) (rest := []) (np := 3) hf hw (k_X7_nodeAt l E _ (nI t) 1 0) ⟨gl_V q156 q157 q158 q2 q159, by decide +kernel⟩ ⟨rfl, rfl, Nat.le_of_ble_eq_true rfl, Nat.le_of_ble_eq_true rfl⟩ (by decide) (c_O E _) rfl rfl hl.1 rfl (Nat.le_of_ble_eq_true rfl) dL_tables_36 ⟨Nat.zero_le _, Nat.zero_le _⟩) (fun μ6 H locs s6 hw => ?_)
  refine lv_istore (lv' := [(6, .int (μ.1 0 (tD t 1))), (5, .int 1), (4, .int 1), (7, .int (μ.1 0 (tR t 0))), (3, .int 4), (0, .ref (E.1 231)), (1, .int (nI t)), (2, .int y)]) hx hb dL_tables_39 hl (by decide) rfl (fun ls hl => ?_)
  refine lv_aload_n hx hb dL_tables_41 rfl (lv_at hl 5 rfl) ?_
  refine lv_iload_n hx hb dL_tables_42 rfl (lv_at hl 6 rfl) ?_
  refine lv_iload hx hb dL_tables_43 (lv_at hl 1 rfl) ?_
  refine lv_iconst (v := 1) hx hb dL_tables_45 (by decide) ?_
  refine c_iV (v := μ.1 0 (tR t 1)) (P := fun z => Same μ z) (a_n1 s6 h ht 1 (by decide)) hw (run_V (As := [.int (nI t), .int 1, .int 1]) (rest := []) (np := 3) hf hw (k_X7_nodeAt l E _ (nI t) 1 1) ⟨gl_V q156 q157 q158 q2 q159, by decide +kernel⟩ ⟨rfl, rfl, Nat.le_of_ble_eq_true rfl, Nat.le_of_ble_eq_true rfl⟩ (by decide) (c_O E _) rfl rfl hl.1 rfl (Nat.le_of_ble_eq_true rfl) dL_tables_46 ⟨Nat.zero_le _, Nat.zero_le _⟩) (fun μ7 H locs s7 hw => ?_)
  refine lv_istore (lv' := [(7, .int (μ.1 0 (tR t 1))), (6, .int (μ.1 0 (tD t 1))), (5, .int 1), (4, .int 1), (3, .int 4), (0, .ref (E.1 231)), (1, .int (nI t)), (2, .int y)]) hx hb dL_tables_49 hl (by decide) rfl (fun ls hl => ?_)
  refine lv_aload_n hx hb dL_tables_51 rfl (lv_at hl 5 rfl) ?_
  refine lv_iload_n hx hb dL_tables_52 rfl (lv_at hl 6 rfl) ?_
  refine lv_iload hx hb dL_tables_53 (lv_at hl 1 rfl) ?_
  refine c_iV (v := sp_X5_ratioAt (μ.1 0) t (μ.1 0 (tD t 1))) (P := fun z => Same μ z) (a_ra (w := μ.1 0 (tD t 1)) s7 h ht n1.1 n1.2.1) hw (run_V (As := [.int (nI t), .int (μ.1 0 (tD t 1))]) (rest := []) (np := 2) hf hw (k_X7_ratio l E _ (nI t) (μ.1 0 (tD t 1))) ⟨gl_V q168 q169 q170 q2 q171, by decide +kernel⟩ ⟨rfl, rfl, Nat.le_of_ble_eq_true rfl, Nat.le_of_ble_eq_true rfl⟩ (by decide) (c_O E _) rfl rfl hl.1 rfl (Nat.le_of_ble_eq_true rfl) dL_tables_55 ⟨Nat.zero_le _, Nat.zero_le _⟩) (fun μ8 H locs s8 hw => ?_)
  refine lv_iload hx hb dL_tables_58 (lv_at hl 0 rfl) ?_
  refine lv_icmp_ne (tgt := 114) hx hb dL_tables_60 (by decide) (fun c => absurd (rat_nd hT (k := 1) (by decide)) c) (fun _ => ?_)
  refine lv_aload_n hx hb dL_tables_63 rfl (lv_at hl 5 rfl) ?_
  refine lv_iload_n hx hb dL_tables_64 rfl (lv_at hl 6 rfl) ?_
  refine lv_iload hx hb dL_tables_65 (lv_at hl 0 rfl) ?_
  refine c_iV (v := sp_X5_temperatureFor (μ.1 0) t (μ.1 0 (tR t 1)).toInt64) (P := fun z => Same μ z) (a_iv (w := μ.1 0 (tR t 1)) s8 h ht ⟨c1.2.2.1, c1.2.2.2⟩) hw (run_V (As := [.int (nI t), .int (μ.1 0 (tR t 1))]) (rest := []) (np := 2) hf hw (k_X7_inverse l E _ (nI t) (μ.1 0 (tR t 1))) ⟨gl_V q187 q188 q189 q2 q190, by decide +kernel⟩ ⟨rfl, rfl, Nat.le_of_ble_eq_true rfl, Nat.le_of_ble_eq_true rfl⟩ (by decide) (c_O E _) rfl rfl hl.1 rfl (Nat.le_of_ble_eq_true rfl) dL_tables_67 ⟨Nat.zero_le _, Nat.zero_le _⟩) (fun μ9 H locs s9 hw => ?_)
  refine lv_iload hx hb dL_tables_70 (lv_at hl 1 rfl) ?_
  refine lv_icmp_ne (tgt := 114) hx hb dL_tables_72 (by decide) (fun c => absurd (inv_nd hT (k := 1) (by decide)) c) (fun _ => ?_)
  refine lv_iload hx hb dL_tables_75 (lv_at hl 2 rfl) ?_
  refine lv_if_eq (tgt := 110) hx hb dL_tables_77 (by decide) (fun c => absurd c (by decide)) (fun _ => ?_)
  refine lv_iload hx hb dL_tables_80 (lv_at hl 1 rfl) ?_
  refine lv_aload_n hx hb dL_tables_82 rfl (lv_at hl 5 rfl) ?_
  refine lv_iload_n hx hb dL_tables_83 rfl (lv_at hl 6 rfl) ?_
  refine lv_iload hx hb dL_tables_84 (lv_at hl 2 rfl) ?_
  refine lv_iconst (v := 1) hx hb dL_tables_86 (by decide) ?_
  refine lv_isub hx hb dL_tables_87 ?_
  refine fold_i (show (1 - 1 : Int32) = 0 from by decide) ?_
  refine lv_iconst (v := 0) hx hb dL_tables_88 (by decide) ?_
  refine c_iV (v := μ.1 0 (tD t 0)) (P := fun z => Same μ z) (a_n0 s9 h ht 0 (by decide)) hw (run_V (As := [.int (nI t), .int 0, .int 0]) (rest := [.int (μ.1 0 (tD t 1))]) (np := 3) hf hw (k_X7_nodeAt l E _ (nI t) 0 0) ⟨gl_V q156 q157 q158 q2 q159, by decide +kernel⟩ ⟨rfl, rfl, Nat.le_of_ble_eq_true rfl, Nat.le_of_ble_eq_true rfl⟩ (by decide) (c_O E _) rfl rfl hl.1 rfl (Nat.le_of_ble_eq_true rfl) dL_tables_89 ⟨Nat.zero_le _, Nat.zero_le _⟩) (fun μ10 H locs s10 hw => ?_)
  refine lv_icmp_le (tgt := 114) hx hb dL_tables_92 (by decide) (fun c => absurd c (by rw [Int32.le_iff_toInt_le]; exact Int.not_le.mpr d0.1)) (fun _ => ?_)
  refine lv_iload hx hb dL_tables_95 (lv_at hl 0 rfl) ?_
  refine lv_aload_n hx hb dL_tables_97 rfl (lv_at hl 5 rfl) ?_
  refine lv_iload_n hx hb dL_tables_98 rfl (lv_at hl 6 rfl) ?_
  refine lv_iload hx hb dL_tables_99 (lv_at hl 2 rfl) ?_
  refine lv_iconst (v := 1) hx hb dL_tables_101 (by decide) ?_
  refine lv_isub hx hb dL_tables_102 ?_
  refine fold_i (show (1 - 1 : Int32) = 0 from by decide) ?_
  refine lv_iconst (v := 1) hx hb dL_tables_103 (by decide) ?_
  refine c_iV (v := μ.1 0 (tR t 0)) (P := fun z => Same μ z) (a_n1 s10 h ht 0 (by decide)) hw (run_V (As := [.int (nI t), .int 0, .int 1]) (rest := [.int (μ.1 0 (tR t 1))]) (np := 3) hf hw (k_X7_nodeAt l E _ (nI t) 0 1) ⟨gl_V q156 q157 q158 q2 q159, by decide +kernel⟩ ⟨rfl, rfl, Nat.le_of_ble_eq_true rfl, Nat.le_of_ble_eq_true rfl⟩ (by decide) (c_O E _) rfl rfl hl.1 rfl (Nat.le_of_ble_eq_true rfl) dL_tables_104 ⟨Nat.zero_le _, Nat.zero_le _⟩) (fun μ11 H locs s11 hw => ?_)
  refine lv_icmp_le (tgt := 114) hx hb dL_tables_107 (by decide) (fun c => absurd c (by rw [Int32.le_iff_toInt_le]; exact Int.not_le.mpr d0.2)) (fun _ => ?_)
  refine lv_iconst (v := 1) hx hb dL_tables_110 (by decide) ?_
  refine lv_goto (tgt := 115) hx hb dL_tables_111 (by decide) ?_
  refine lv_istore (lv' := [(4, .int 1), (7, .int (μ.1 0 (tR t 1))), (6, .int (μ.1 0 (tD t 1))), (5, .int 1), (3, .int 4), (0, .ref (E.1 231)), (1, .int (nI t)), (2, .int y)]) hx hb dL_tables_115 hl (by decide) rfl (fun ls hl => ?_)
  refine lv_iinc (v := 2) (lv' := [(5, .int 2), (4, .int 1), (7, .int (μ.1 0 (tR t 1))), (6, .int (μ.1 0 (tD t 1))), (3, .int 4), (0, .ref (E.1 231)), (1, .int (nI t)), (2, .int y)]) hx hb dL_tables_117 hl (k := 3) rfl (by decide) (by decide) rfl (fun ls hl => ?_)
  refine lv_goto (tgt := 15) hx hb dL_tables_120 (by decide) ?_
  refine lv_iload hx hb dL_tables_15 (lv_at hl 0 rfl) ?_
  refine lv_iload_n hx hb dL_tables_17 rfl (lv_at hl 4 rfl) ?_
  refine lv_icmp_ge (tgt := 123) hx hb dL_tables_18 (by decide) (fun c => absurd c (by decide)) (fun _ => ?_)
  refine lv_iload hx hb dL_tables_21 (lv_at hl 1 rfl) ?_
  refine lv_if_eq (tgt := 123) hx hb dL_tables_23 (by decide) (fun c => absurd c (by decide)) (fun _ => ?_)
  refine lv_iload_n hx hb dL_tables_26 rfl (lv_at hl 4 rfl) ?_
  refine lv_iconst (v := 1) hx hb dL_tables_27 (by decide) ?_
  refine lv_icmp_le (tgt := 123) hx hb dL_tables_28 (by decide) (fun c => absurd c (by decide)) (fun _ => ?_)
  refine lv_aload_n hx hb dL_tables_31 rfl (lv_at hl 5 rfl) ?_
  refine lv_iload_n hx hb dL_tables_32 rfl (lv_at hl 6 rfl) ?_
  refine lv_iload hx hb dL_tables_33 (lv_at hl 0 rfl) ?_
  refine lv_iconst (v := 0) hx hb dL_tables_35 (by decide) ?_
  refine c_iV (v := μ.1 0 (tD t 2)) (P := fun z => Same μ z) (a_n0 s11 h ht 2 (by decide)) hw (run_V (As := [.int (nI t), .int 2, .int 0]) (rest := []) (np := 3) hf hw (k_X7_nodeAt l E _ (nI t) 2 0) ⟨gl_V q156 q157 q158 q2 q159, by decide +kernel⟩ ⟨rfl, rfl, Nat.le_of_ble_eq_true rfl, Nat.le_of_ble_eq_true rfl⟩ (by decide) (c_O E _) rfl rfl hl.1 rfl (Nat.le_of_ble_eq_true rfl) dL_tables_36 ⟨Nat.zero_le _, Nat.zero_le _⟩) (fun μ12 H locs s12 hw => ?_)
  refine lv_istore (lv' := [(6, .int (μ.1 0 (tD t 2))), (5, .int 2), (4, .int 1), (7, .int (μ.1 0 (tR t 1))), (3, .int 4), (0, .ref (E.1 231)), (1, .int (nI t)), (2, .int y)]) hx hb dL_tables_39 hl (by decide) rfl (fun ls hl => ?_)
  refine lv_aload_n hx hb dL_tables_41 rfl (lv_at hl 5 rfl) ?_
  refine lv_iload_n hx hb dL_tables_42 rfl (lv_at hl 6 rfl) ?_
  refine lv_iload hx hb dL_tables_43 (lv_at hl 1 rfl) ?_
  refine lv_iconst (v := 1) hx hb dL_tables_45 (by decide) ?_
  refine c_iV (v := μ.1 0 (tR t 2)) (P := fun z => Same μ z) (a_n1 s12 h ht 2 (by decide)) hw (run_V (As := [.int (nI t), .int 2, .int 1]) (rest := []) (np := 3) hf hw (k_X7_nodeAt l E _ (nI t) 2 1) ⟨gl_V q156 q157 q158 q2 q159, by decide +kernel⟩ ⟨rfl, rfl, Nat.le_of_ble_eq_true rfl, Nat.le_of_ble_eq_true rfl⟩ (by decide) (c_O E _) rfl rfl hl.1 rfl (Nat.le_of_ble_eq_true rfl) dL_tables_46 ⟨Nat.zero_le _, Nat.zero_le _⟩) (fun μ13 H locs s13 hw => ?_)
  refine lv_istore (lv' := [(7, .int (μ.1 0 (tR t 2))), (6, .int (μ.1 0 (tD t 2))), (5, .int 2), (4, .int 1), (3, .int 4), (0, .ref (E.1 231)), (1, .int (nI t)), (2, .int y)]) hx hb dL_tables_49 hl (by decide) rfl (fun ls hl => ?_)
  refine lv_aload_n hx hb dL_tables_51 rfl (lv_at hl 5 rfl) ?_
  refine lv_iload_n hx hb dL_tables_52 rfl (lv_at hl 6 rfl) ?_
  refine lv_iload hx hb dL_tables_53 (lv_at hl 1 rfl) ?_
  refine c_iV (v := sp_X5_ratioAt (μ.1 0) t (μ.1 0 (tD t 2))) (P := fun z => Same μ z) (a_ra (w := μ.1 0 (tD t 2)) s13 h ht n2.1 n2.2.1) hw (run_V (As := [.int (nI t), .int (μ.1 0 (tD t 2))]) (rest := []) (np := 2) hf hw (k_X7_ratio l E _ (nI t) (μ.1 0 (tD t 2))) ⟨gl_V q168 q169 q170 q2 q171, by decide +kernel⟩ ⟨rfl, rfl, Nat.le_of_ble_eq_true rfl, Nat.le_of_ble_eq_true rfl⟩ (by decide) (c_O E _) rfl rfl hl.1 rfl (Nat.le_of_ble_eq_true rfl) dL_tables_55 ⟨Nat.zero_le _, Nat.zero_le _⟩) (fun μ14 H locs s14 hw => ?_)
  refine lv_iload hx hb dL_tables_58 (lv_at hl 0 rfl) ?_
  refine lv_icmp_ne (tgt := 114) hx hb dL_tables_60 (by decide) (fun c => absurd (rat_nd hT (k := 2) (by decide)) c) (fun _ => ?_)
  refine lv_aload_n hx hb dL_tables_63 rfl (lv_at hl 5 rfl) ?_
  refine lv_iload_n hx hb dL_tables_64 rfl (lv_at hl 6 rfl) ?_
  refine lv_iload hx hb dL_tables_65 (lv_at hl 0 rfl) ?_
  refine c_iV (v := sp_X5_temperatureFor (μ.1 0) t (μ.1 0 (tR t 2)).toInt64) (P := fun z => Same μ z) (a_iv (w := μ.1 0 (tR t 2)) s14 h ht ⟨c2.2.2.1, c2.2.2.2⟩) hw (run_V (As := [.int (nI t), .int (μ.1 0 (tR t 2))]) (rest := []) (np := 2) hf hw (k_X7_inverse l E _ (nI t) (μ.1 0 (tR t 2))) ⟨gl_V q187 q188 q189 q2 q190, by decide +kernel⟩ ⟨rfl, rfl, Nat.le_of_ble_eq_true rfl, Nat.le_of_ble_eq_true rfl⟩ (by decide) (c_O E _) rfl rfl hl.1 rfl (Nat.le_of_ble_eq_true rfl) dL_tables_67 ⟨Nat.zero_le _, Nat.zero_le _⟩) (fun μ15 H locs s15 hw => ?_)
  refine lv_iload hx hb dL_tables_70 (lv_at hl 1 rfl) ?_
  refine lv_icmp_ne (tgt := 114) hx hb dL_tables_72 (by decide) (fun c => absurd (inv_nd hT (k := 2) (by decide)) c) (fun _ => ?_)
  refine lv_iload hx hb dL_tables_75 (lv_at hl 2 rfl) ?_
  refine lv_if_eq (tgt := 110) hx hb dL_tables_77 (by decide) (fun c => absurd c (by decide)) (fun _ => ?_)
  refine lv_iload hx hb dL_tables_80 (lv_at hl 1 rfl) ?_
  refine lv_aload_n hx hb dL_tables_82 rfl (lv_at hl 5 rfl) ?_
  refine lv_iload_n hx hb dL_tables_83 rfl (lv_at hl 6 rfl) ?_
  refine lv_iload hx hb dL_tables_84 (lv_at hl 2 rfl) ?_
  refine lv_iconst (v := 1) hx hb dL_tables_86 (by decide) ?_
  refine lv_isub hx hb dL_tables_87 ?_
  refine fold_i (show (2 - 1 : Int32) = 1 from by decide) ?_
  refine lv_iconst (v := 0) hx hb dL_tables_88 (by decide) ?_
  refine c_iV (v := μ.1 0 (tD t 1)) (P := fun z => Same μ z) (a_n0 s15 h ht 1 (by decide)) hw (run_V (As := [.int (nI t), .int 1, .int 0]) (rest := [.int (μ.1 0 (tD t 2))]) (np := 3) hf hw (k_X7_nodeAt l E _ (nI t) 1 0) ⟨gl_V q156 q157 q158 q2 q159, by decide +kernel⟩ ⟨rfl, rfl, Nat.le_of_ble_eq_true rfl, Nat.le_of_ble_eq_true rfl⟩ (by decide) (c_O E _) rfl rfl hl.1 rfl (Nat.le_of_ble_eq_true rfl) dL_tables_89 ⟨Nat.zero_le _, Nat.zero_le _⟩) (fun μ16 H locs s16 hw => ?_)
  refine lv_icmp_le (tgt := 114) hx hb dL_tables_92 (by decide) (fun c => absurd c (by rw [Int32.le_iff_toInt_le]; exact Int.not_le.mpr d1.1)) (fun _ => ?_)
  refine lv_iload hx hb dL_tables_95 (lv_at hl 0 rfl) ?_
  refine lv_aload_n hx hb dL_tables_97 rfl (lv_at hl 5 rfl) ?_
  refine lv_iload_n hx hb dL_tables_98 rfl (lv_at hl 6 rfl) ?_
  refine lv_iload hx hb dL_tables_99 (lv_at hl 2 rfl) ?_
  refine lv_iconst (v := 1) hx hb dL_tables_101 (by decide) ?_
  refine lv_isub hx hb dL_tables_102 ?_
  refine fold_i (show (2 - 1 : Int32) = 1 from by decide) ?_
  refine lv_iconst (v := 1) hx hb dL_tables_103 (by decide) ?_
  refine c_iV (v := μ.1 0 (tR t 1)) (P := fun z => Same μ z) (a_n1 s16 h ht 1 (by decide)) hw (run_V (As := [.int (nI t), .int 1, .int 1]) (rest := [.int (μ.1 0 (tR t 2))]) (np := 3) hf hw (k_X7_nodeAt l E _ (nI t) 1 1) ⟨gl_V q156 q157 q158 q2 q159, by decide +kernel⟩ ⟨rfl, rfl, Nat.le_of_ble_eq_true rfl, Nat.le_of_ble_eq_true rfl⟩ (by decide) (c_O E _) rfl rfl hl.1 rfl (Nat.le_of_ble_eq_true rfl) dL_tables_104 ⟨Nat.zero_le _, Nat.zero_le _⟩) (fun μ17 H locs s17 hw => ?_)
  refine lv_icmp_le (tgt := 114) hx hb dL_tables_107 (by decide) (fun c => absurd c (by rw [Int32.le_iff_toInt_le]; exact Int.not_le.mpr d1.2)) (fun _ => ?_)
  refine lv_iconst (v := 1) hx hb dL_tables_110 (by decide) ?_
  refine lv_goto (tgt := 115) hx hb dL_tables_111 (by decide) ?_
  refine lv_istore (lv' := [(4, .int 1), (7, .int (μ.1 0 (tR t 2))), (6, .int (μ.1 0 (tD t 2))), (5, .int 2), (3, .int 4), (0, .ref (E.1 231)), (1, .int (nI t)), (2, .int y)]) hx hb dL_tables_115 hl (by decide) rfl (fun ls hl => ?_)
  refine lv_iinc (v := 3) (lv' := [(5, .int 3), (4, .int 1), (7, .int (μ.1 0 (tR t 2))), (6, .int (μ.1 0 (tD t 2))), (3, .int 4), (0, .ref (E.1 231)), (1, .int (nI t)), (2, .int y)]) hx hb dL_tables_117 hl (k := 3) rfl (by decide) (by decide) rfl (fun ls hl => ?_)
  refine lv_goto (tgt := 15) hx hb dL_tables_120 (by decide) ?_
  refine lv_iload hx hb dL_tables_15 (lv_at hl 0 rfl) ?_
  refine lv_iload_n hx hb dL_tables_17 rfl (lv_at hl 4 rfl) ?_
  refine lv_icmp_ge (tgt := 123) hx hb dL_tables_18 (by decide) (fun c => absurd c (by decide)) (fun _ => ?_)
  refine lv_iload hx hb dL_tables_21 (lv_at hl 1 rfl) ?_
  refine lv_if_eq (tgt := 123) hx hb dL_tables_23 (by decide) (fun c => absurd c (by decide)) (fun _ => ?_)
  refine lv_iload_n hx hb dL_tables_26 rfl (lv_at hl 4 rfl) ?_
  refine lv_iconst (v := 1) hx hb dL_tables_27 (by decide) ?_
  refine lv_icmp_le (tgt := 123) hx hb dL_tables_28 (by decide) (fun c => absurd c (by decide)) (fun _ => ?_)
  refine lv_aload_n hx hb dL_tables_31 rfl (lv_at hl 5 rfl) ?_
  refine lv_iload_n hx hb dL_tables_32 rfl (lv_at hl 6 rfl) ?_
  refine lv_iload hx hb dL_tables_33 (lv_at hl 0 rfl) ?_
  refine lv_iconst (v := 0) hx hb dL_tables_35 (by decide) ?_
  refine c_iV (v := μ.1 0 (tD t 3)) (P := fun z => Same μ z) (a_n0 s17 h ht 3 (by decide)) hw (run_V (As := [.int (nI t), .int 3, .int 0]) (rest := []) (np := 3) hf hw (k_X7_nodeAt l E _ (nI t) 3 0) ⟨gl_V q156 q157 q158 q2 q159, by decide +kernel⟩ ⟨rfl, rfl, Nat.le_of_ble_eq_true rfl, Nat.le_of_ble_eq_true rfl⟩ (by decide) (c_O E _) rfl rfl hl.1 rfl (Nat.le_of_ble_eq_true rfl) dL_tables_36 ⟨Nat.zero_le _, Nat.zero_le _⟩) (fun μ18 H locs s18 hw => ?_)
  refine lv_istore (lv' := [(6, .int (μ.1 0 (tD t 3))), (5, .int 3), (4, .int 1), (7, .int (μ.1 0 (tR t 2))), (3, .int 4), (0, .ref (E.1 231)), (1, .int (nI t)), (2, .int y)]) hx hb dL_tables_39 hl (by decide) rfl (fun ls hl => ?_)
  refine lv_aload_n hx hb dL_tables_41 rfl (lv_at hl 5 rfl) ?_
  refine lv_iload_n hx hb dL_tables_42 rfl (lv_at hl 6 rfl) ?_
  refine lv_iload hx hb dL_tables_43 (lv_at hl 1 rfl) ?_
  refine lv_iconst (v := 1) hx hb dL_tables_45 (by decide) ?_
  refine c_iV (v := μ.1 0 (tR t 3)) (P := fun z => Same μ z) (a_n1 s18 h ht 3 (by decide)) hw (run_V (As := [.int (nI t), .int 3, .int 1]) (rest := []) (np := 3) hf hw (k_X7_nodeAt l E _ (nI t) 3 1) ⟨gl_V q156 q157 q158 q2 q159, by decide +kernel⟩ ⟨rfl, rfl, Nat.le_of_ble_eq_true rfl, Nat.le_of_ble_eq_true rfl⟩ (by decide) (c_O E _) rfl rfl hl.1 rfl (Nat.le_of_ble_eq_true rfl) dL_tables_46 ⟨Nat.zero_le _, Nat.zero_le _⟩) (fun μ19 H locs s19 hw => ?_)
  refine lv_istore (lv' := [(7, .int (μ.1 0 (tR t 3))), (6, .int (μ.1 0 (tD t 3))), (5, .int 3), (4, .int 1), (3, .int 4), (0, .ref (E.1 231)), (1, .int (nI t)), (2, .int y)]) hx hb dL_tables_49 hl (by decide) rfl (fun ls hl => ?_)
  refine lv_aload_n hx hb dL_tables_51 rfl (lv_at hl 5 rfl) ?_
  refine lv_iload_n hx hb dL_tables_52 rfl (lv_at hl 6 rfl) ?_
  refine lv_iload hx hb dL_tables_53 (lv_at hl 1 rfl) ?_
  refine c_iV (v := sp_X5_ratioAt (μ.1 0) t (μ.1 0 (tD t 3))) (P := fun z => Same μ z) (a_ra (w := μ.1 0 (tD t 3)) s19 h ht n3.1 n3.2.1) hw (run_V (As := [.int (nI t), .int (μ.1 0 (tD t 3))]) (rest := []) (np := 2) hf hw (k_X7_ratio l E _ (nI t) (μ.1 0 (tD t 3))) ⟨gl_V q168 q169 q170 q2 q171, by decide +kernel⟩ ⟨rfl, rfl, Nat.le_of_ble_eq_true rfl, Nat.le_of_ble_eq_true rfl⟩ (by decide) (c_O E _) rfl rfl hl.1 rfl (Nat.le_of_ble_eq_true rfl) dL_tables_55 ⟨Nat.zero_le _, Nat.zero_le _⟩) (fun μ20 H locs s20 hw => ?_)
  refine lv_iload hx hb dL_tables_58 (lv_at hl 0 rfl) ?_
  refine lv_icmp_ne (tgt := 114) hx hb dL_tables_60 (by decide) (fun c => absurd (rat_nd hT (k := 3) (by decide)) c) (fun _ => ?_)
  refine lv_aload_n hx hb dL_tables_63 rfl (lv_at hl 5 rfl) ?_
  refine lv_iload_n hx hb dL_tables_64 rfl (lv_at hl 6 rfl) ?_
  refine lv_iload hx hb dL_tables_65 (lv_at hl 0 rfl) ?_
  refine c_iV (v := sp_X5_temperatureFor (μ.1 0) t (μ.1 0 (tR t 3)).toInt64) (P := fun z => Same μ z) (a_iv (w := μ.1 0 (tR t 3)) s20 h ht ⟨c3.2.2.1, c3.2.2.2⟩) hw (run_V (As := [.int (nI t), .int (μ.1 0 (tR t 3))]) (rest := []) (np := 2) hf hw (k_X7_inverse l E _ (nI t) (μ.1 0 (tR t 3))) ⟨gl_V q187 q188 q189 q2 q190, by decide +kernel⟩ ⟨rfl, rfl, Nat.le_of_ble_eq_true rfl, Nat.le_of_ble_eq_true rfl⟩ (by decide) (c_O E _) rfl rfl hl.1 rfl (Nat.le_of_ble_eq_true rfl) dL_tables_67 ⟨Nat.zero_le _, Nat.zero_le _⟩) (fun μ21 H locs s21 hw => ?_)
  refine lv_iload hx hb dL_tables_70 (lv_at hl 1 rfl) ?_
  refine lv_icmp_ne (tgt := 114) hx hb dL_tables_72 (by decide) (fun c => absurd (inv_nd hT (k := 3) (by decide)) c) (fun _ => ?_)
  refine lv_iload hx hb dL_tables_75 (lv_at hl 2 rfl) ?_
  refine lv_if_eq (tgt := 110) hx hb dL_tables_77 (by decide) (fun c => absurd c (by decide)) (fun _ => ?_)
  refine lv_iload hx hb dL_tables_80 (lv_at hl 1 rfl) ?_
  refine lv_aload_n hx hb dL_tables_82 rfl (lv_at hl 5 rfl) ?_
  refine lv_iload_n hx hb dL_tables_83 rfl (lv_at hl 6 rfl) ?_
  refine lv_iload hx hb dL_tables_84 (lv_at hl 2 rfl) ?_
  refine lv_iconst (v := 1) hx hb dL_tables_86 (by decide) ?_
  refine lv_isub hx hb dL_tables_87 ?_
  refine fold_i (show (3 - 1 : Int32) = 2 from by decide) ?_
  refine lv_iconst (v := 0) hx hb dL_tables_88 (by decide) ?_
  refine c_iV (v := μ.1 0 (tD t 2)) (P := fun z => Same μ z) (a_n0 s21 h ht 2 (by decide)) hw (run_V (As := [.int (nI t), .int 2, .int 0]) (rest := [.int (μ.1 0 (tD t 3))]) (np := 3) hf hw (k_X7_nodeAt l E _ (nI t) 2 0) ⟨gl_V q156 q157 q158 q2 q159, by decide +kernel⟩ ⟨rfl, rfl, Nat.le_of_ble_eq_true rfl, Nat.le_of_ble_eq_true rfl⟩ (by decide) (c_O E _) rfl rfl hl.1 rfl (Nat.le_of_ble_eq_true rfl) dL_tables_89 ⟨Nat.zero_le _, Nat.zero_le _⟩) (fun μ22 H locs s22 hw => ?_)
  refine lv_icmp_le (tgt := 114) hx hb dL_tables_92 (by decide) (fun c => absurd c (by rw [Int32.le_iff_toInt_le]; exact Int.not_le.mpr d2.1)) (fun _ => ?_)
  refine lv_iload hx hb dL_tables_95 (lv_at hl 0 rfl) ?_
  refine lv_aload_n hx hb dL_tables_97 rfl (lv_at hl 5 rfl) ?_
  refine lv_iload_n hx hb dL_tables_98 rfl (lv_at hl 6 rfl) ?_
  refine lv_iload hx hb dL_tables_99 (lv_at hl 2 rfl) ?_
  refine lv_iconst (v := 1) hx hb dL_tables_101 (by decide) ?_
  refine lv_isub hx hb dL_tables_102 ?_
  refine fold_i (show (3 - 1 : Int32) = 2 from by decide) ?_
  refine lv_iconst (v := 1) hx hb dL_tables_103 (by decide) ?_
  refine c_iV (v := μ.1 0 (tR t 2)) (P := fun z => Same μ z) (a_n1 s22 h ht 2 (by decide)) hw (run_V (As := [.int (nI t), .int 2, .int 1]) (rest := [.int (μ.1 0 (tR t 3))]) (np := 3) hf hw (k_X7_nodeAt l E _ (nI t) 2 1) ⟨gl_V q156 q157 q158 q2 q159, by decide +kernel⟩ ⟨rfl, rfl, Nat.le_of_ble_eq_true rfl, Nat.le_of_ble_eq_true rfl⟩ (by decide) (c_O E _) rfl rfl hl.1 rfl (Nat.le_of_ble_eq_true rfl) dL_tables_104 ⟨Nat.zero_le _, Nat.zero_le _⟩) (fun μ23 H locs s23 hw => ?_)
  refine lv_icmp_le (tgt := 114) hx hb dL_tables_107 (by decide) (fun c => absurd c (by rw [Int32.le_iff_toInt_le]; exact Int.not_le.mpr d2.2)) (fun _ => ?_)
  refine lv_iconst (v := 1) hx hb dL_tables_110 (by decide) ?_
  refine lv_goto (tgt := 115) hx hb dL_tables_111 (by decide) ?_
  refine lv_istore (lv' := [(4, .int 1), (7, .int (μ.1 0 (tR t 3))), (6, .int (μ.1 0 (tD t 3))), (5, .int 3), (3, .int 4), (0, .ref (E.1 231)), (1, .int (nI t)), (2, .int y)]) hx hb dL_tables_115 hl (by decide) rfl (fun ls hl => ?_)
  refine lv_iinc (v := 4) (lv' := [(5, .int 4), (4, .int 1), (7, .int (μ.1 0 (tR t 3))), (6, .int (μ.1 0 (tD t 3))), (3, .int 4), (0, .ref (E.1 231)), (1, .int (nI t)), (2, .int y)]) hx hb dL_tables_117 hl (k := 3) rfl (by decide) (by decide) rfl (fun ls hl => ?_)
  refine lv_goto (tgt := 15) hx hb dL_tables_120 (by decide) ?_
  refine lv_iload hx hb dL_tables_15 (lv_at hl 0 rfl) ?_
  refine lv_iload_n hx hb dL_tables_17 rfl (lv_at hl 4 rfl) ?_
  refine lv_icmp_ge (tgt := 123) hx hb dL_tables_18 (by decide) (fun _ => ?_) (fun c => absurd (by decide) c)
  refine lv_iload_n hx hb dL_tables_123 rfl (lv_at hl 4 rfl) ?_
  refine lv_iconst (v := 1) hx hb dL_tables_124 (by decide) ?_
  refine lv_icmp_le (tgt := 262) hx hb dL_tables_125 (by decide) (fun c => absurd c (by decide)) (fun _ => ?_)
  refine lv_iload hx hb dL_tables_128 (lv_at hl 1 rfl) ?_
  refine lv_if_eq (tgt := 262) hx hb dL_tables_130 (by decide) (fun c => absurd c (by decide)) (fun _ => ?_)
  refine lv_aload_n hx hb dL_tables_133 rfl (lv_at hl 5 rfl) ?_
  refine lv_iload_n hx hb dL_tables_134 rfl (lv_at hl 6 rfl) ?_
  refine lv_iconst (v := 0) hx hb dL_tables_135 (by decide) ?_
  refine lv_iconst (v := 0) hx hb dL_tables_136 (by decide) ?_
  refine c_iV (v := μ.1 0 (tD t 0)) (P := fun z => Same μ z) (a_n0 s23 h ht 0 (by decide)) hw (run_V (As := [.int (nI t), .int 0, .int 0]) (rest := []) (np := 3) hf hw (k_X7_nodeAt l E _ (nI t) 0 0) ⟨gl_V q156 q157 q158 q2 q159, by decide +kernel⟩ ⟨rfl, rfl, Nat.le_of_ble_eq_true rfl, Nat.le_of_ble_eq_true rfl⟩ (by decide) (c_O E _) rfl rfl hl.1 rfl (Nat.le_of_ble_eq_true rfl) dL_tables_137 ⟨Nat.zero_le _, Nat.zero_le _⟩) (fun μ24 H locs s24 hw => ?_)
  refine lv_istore (lv' := [(5, .int (μ.1 0 (tD t 0))), (4, .int 1), (7, .int (μ.1 0 (tR t 3))), (6, .int (μ.1 0 (tD t 3))), (3, .int 4), (0, .ref (E.1 231)), (1, .int (nI t)), (2, .int y)]) hx hb dL_tables_140 hl (by decide) rfl (fun ls hl => ?_)
  refine lv_aload_n hx hb dL_tables_142 rfl (lv_at hl 5 rfl) ?_
  refine lv_iload_n hx hb dL_tables_143 rfl (lv_at hl 6 rfl) ?_
  refine lv_iload_n hx hb dL_tables_144 rfl (lv_at hl 4 rfl) ?_
  refine lv_iconst (v := 1) hx hb dL_tables_145 (by decide) ?_
  refine lv_isub hx hb dL_tables_146 ?_
  refine fold_i (show (4 - 1 : Int32) = 3 from by decide) ?_
  refine lv_iconst (v := 0) hx hb dL_tables_147 (by decide) ?_
  refine c_iV (v := μ.1 0 (tD t 3)) (P := fun z => Same μ z) (a_n0 s24 h ht 3 (by decide)) hw (run_V (As := [.int (nI t), .int 3, .int 0]) (rest := []) (np := 3) hf hw (k_X7_nodeAt l E _ (nI t) 3 0) ⟨gl_V q156 q157 q158 q2 q159, by decide +kernel⟩ ⟨rfl, rfl, Nat.le_of_ble_eq_true rfl, Nat.le_of_ble_eq_true rfl⟩ (by decide) (c_O E _) rfl rfl hl.1 rfl (Nat.le_of_ble_eq_true rfl) dL_tables_148 ⟨Nat.zero_le _, Nat.zero_le _⟩) (fun μ25 H locs s25 hw => ?_)
  refine lv_istore (lv' := [(6, .int (μ.1 0 (tD t 3))), (5, .int (μ.1 0 (tD t 0))), (4, .int 1), (7, .int (μ.1 0 (tR t 3))), (3, .int 4), (0, .ref (E.1 231)), (1, .int (nI t)), (2, .int y)]) hx hb dL_tables_151 hl (by decide) rfl (fun ls hl => ?_)
  refine lv_iload hx hb dL_tables_153 (lv_at hl 1 rfl) ?_
  refine lv_iload_n hx hb dL_tables_155 rfl (lv_at hl 7 rfl) ?_
  refine lv_iload hx hb dL_tables_156 (lv_at hl 0 rfl) ?_
  refine lv_iload hx hb dL_tables_158 (lv_at hl 1 rfl) ?_
  refine lv_isub hx hb dL_tables_160 ?_
  refine lv_iconst (v := 1) hx hb dL_tables_161 (by decide) ?_
  refine lv_iadd hx hb dL_tables_162 ?_
  refine lv_irem hx hb dL_tables_163 (rem_nz d03 (by omega) (by omega)).2 ?_
  refine lv_iadd hx hb dL_tables_164 ?_
  refine lv_topi (fun a ea => ?_)
  have ra : dI (μ.1 0) t 0 ≤ a.toInt ∧ a.toInt ≤ dI (μ.1 0) t 3 := by rw [ea]; exact rem_rg d03 (by omega) (by omega) hy
  clear ea
  refine lv_istore (lv' := [(7, .int a), (6, .int (μ.1 0 (tD t 3))), (5, .int (μ.1 0 (tD t 0))), (4, .int 1), (3, .int 4), (0, .ref (E.1 231)), (1, .int (nI t)), (2, .int y)]) hx hb dL_tables_165 hl (by decide) rfl (fun ls hl => ?_)
  refine lv_iload hx hb dL_tables_167 (lv_at hl 0 rfl) ?_
  refine lv_iload_n hx hb dL_tables_169 rfl (lv_at hl 7 rfl) ?_
  refine lv_bipush (v := 64) hx hb dL_tables_170 (by decide) ?_
  refine lv_idiv hx hb dL_tables_172 (by decide) ?_
  refine lv_iload hx hb dL_tables_173 (lv_at hl 1 rfl) ?_
  refine lv_iload hx hb dL_tables_175 (lv_at hl 0 rfl) ?_
  refine lv_isub hx hb dL_tables_177 ?_
  refine lv_iconst (v := 1) hx hb dL_tables_178 (by decide) ?_
  refine lv_iadd hx hb dL_tables_179 ?_
  refine lv_irem hx hb dL_tables_180 (rem_nz (lo := a) ra.2 (by omega) (by omega)).2 ?_
  refine lv_iadd hx hb dL_tables_181 ?_
  refine lv_topi (fun b eb => ?_)
  have rb : a.toInt ≤ b.toInt ∧ b.toInt ≤ dI (μ.1 0) t 3 := by rw [eb]; exact rem_rg (lo := a) ra.2 (by omega) (by omega) (div_b hy (by decide)).1
  clear eb
  have va := rat_val hT ra.1 ra.2
  have vb := rat_val hT (Int.le_trans ra.1 rb.1) rb.2
  have ga := ratI_rg (tb_asc hT) ra.1 ra.2
  have gb := ratI_rg (tb_asc hT) (Int.le_trans ra.1 rb.1) rb.2
  have mab := ratI_mono (tb_asc hT) ra.1 rb.1 rb.2
  have ia := iv_of hT (w := sp_X5_ratioAt (μ.1 0) t a) (by rw [va]; exact ga.1) (by rw [va]; exact ga.2)
  have ib := iv_of hT (w := sp_X5_ratioAt (μ.1 0) t b) (by rw [vb]; exact gb.1) (by rw [vb]; exact gb.2)
  rw [va] at ia
  rw [vb] at ib
  have rga : 1 ≤ (sp_X5_ratioAt (μ.1 0) t a).toInt ∧ (sp_X5_ratioAt (μ.1 0) t a).toInt ≤ 10000000 := by rw [va]; omega
  have rgb : 1 ≤ (sp_X5_ratioAt (μ.1 0) t b).toInt ∧ (sp_X5_ratioAt (μ.1 0) t b).toInt ≤ 10000000 := by rw [vb]; omega
  refine lv_istore (lv' := [(8, .int b), (7, .int a), (6, .int (μ.1 0 (tD t 3))), (5, .int (μ.1 0 (tD t 0))), (4, .int 1), (3, .int 4), (0, .ref (E.1 231)), (1, .int (nI t)), (2, .int y)]) hx hb dL_tables_182 hl (by decide) rfl (fun ls hl => ?_)
  refine lv_aload_n hx hb dL_tables_184 rfl (lv_at hl 6 rfl) ?_
  refine lv_iload_n hx hb dL_tables_185 rfl (lv_at hl 7 rfl) ?_
  refine lv_iload hx hb dL_tables_186 (lv_at hl 1 rfl) ?_
  refine c_iV (v := sp_X5_ratioAt (μ.1 0) t a) (P := fun z => Same μ z) (a_ra (w := a) s25 h ht ra.1 ra.2) hw (run_V (As := [.int (nI t), .int a]) (rest := []) (np := 2) hf hw (k_X7_ratio l E _ (nI t) a) ⟨gl_V q168 q169 q170 q2 q171, by decide +kernel⟩ ⟨rfl, rfl, Nat.le_of_ble_eq_true rfl, Nat.le_of_ble_eq_true rfl⟩ (by decide) (c_O E _) rfl rfl hl.1 rfl (Nat.le_of_ble_eq_true rfl) dL_tables_188 ⟨Nat.zero_le _, Nat.zero_le _⟩) (fun μ26 H locs s26 hw => ?_)
  refine lv_istore (lv' := [(9, .int (sp_X5_ratioAt (μ.1 0) t a)), (8, .int b), (7, .int a), (6, .int (μ.1 0 (tD t 3))), (5, .int (μ.1 0 (tD t 0))), (4, .int 1), (3, .int 4), (0, .ref (E.1 231)), (1, .int (nI t)), (2, .int y)]) hx hb dL_tables_191 hl (by decide) rfl (fun ls hl => ?_)
  refine lv_aload_n hx hb dL_tables_193 rfl (lv_at hl 7 rfl) ?_
  refine lv_iload_n hx hb dL_tables_194 rfl (lv_at hl 8 rfl) ?_
  refine lv_iload hx hb dL_tables_195 (lv_at hl 1 rfl) ?_
  refine c_iV (v := sp_X5_ratioAt (μ.1 0) t b) (P := fun z => Same μ z) (a_ra (w := b) s26 h ht (Int.le_trans ra.1 rb.1) rb.2) hw (run_V (As := [.int (nI t), .int b]) (rest := []) (np := 2) hf hw (k_X7_ratio l E _ (nI t) b) ⟨gl_V q168 q169 q170 q2 q171, by decide +kernel⟩ ⟨rfl, rfl, Nat.le_of_ble_eq_true rfl, Nat.le_of_ble_eq_true rfl⟩ (by decide) (c_O E _) rfl rfl hl.1 rfl (Nat.le_of_ble_eq_true rfl) dL_tables_197 ⟨Nat.zero_le _, Nat.zero_le _⟩) (fun μ27 H locs s27 hw => ?_)
  refine lv_istore (lv' := [(10, .int (sp_X5_ratioAt (μ.1 0) t b)), (9, .int (sp_X5_ratioAt (μ.1 0) t a)), (8, .int b), (7, .int a), (6, .int (μ.1 0 (tD t 3))), (5, .int (μ.1 0 (tD t 0))), (4, .int 1), (3, .int 4), (0, .ref (E.1 231)), (1, .int (nI t)), (2, .int y)]) hx hb dL_tables_200 hl (by decide) rfl (fun ls hl => ?_)
  refine lv_iload hx hb dL_tables_202 (lv_at hl 1 rfl) ?_
  refine lv_iload hx hb dL_tables_204 (lv_at hl 0 rfl) ?_
  refine lv_icmp_gt (tgt := 259) hx hb dL_tables_206 (by decide) (fun c => absurd c (by rw [Int32.lt_iff_toInt_lt, va, vb]; exact Int.not_lt.mpr mab)) (fun _ => ?_)
  refine lv_aload_n hx hb dL_tables_209 rfl (lv_at hl 8 rfl) ?_
  refine lv_iload_n hx hb dL_tables_210 rfl (lv_at hl 9 rfl) ?_
  refine lv_iload hx hb dL_tables_211 (lv_at hl 1 rfl) ?_
  refine c_iV (v := sp_X5_temperatureFor (μ.1 0) t (sp_X5_ratioAt (μ.1 0) t a).toInt64) (P := fun z => Same μ z) (a_iv (w := sp_X5_ratioAt (μ.1 0) t a) s27 h ht rga) hw (run_V (As := [.int (nI t), .int (sp_X5_ratioAt (μ.1 0) t a)]) (rest := []) (np := 2) hf hw (k_X7_inverse l E _ (nI t) (sp_X5_ratioAt (μ.1 0) t a)) ⟨gl_V q187 q188 q189 q2 q190, by decide +kernel⟩ ⟨rfl, rfl, Nat.le_of_ble_eq_true rfl, Nat.le_of_ble_eq_true rfl⟩ (by decide) (c_O E _) rfl rfl hl.1 rfl (Nat.le_of_ble_eq_true rfl) dL_tables_213 ⟨Nat.zero_le _, Nat.zero_le _⟩) (fun μ28 H locs s28 hw => ?_)
  refine lv_iload hx hb dL_tables_216 (lv_at hl 3 rfl) ?_
  refine lv_icmp_gt (tgt := 259) hx hb dL_tables_218 (by decide) (fun c => absurd c (by rw [Int32.lt_iff_toInt_lt]; exact Int.not_lt.mpr (iv_le ia ra.1))) (fun _ => ?_)
  refine lv_aload_n hx hb dL_tables_221 rfl (lv_at hl 8 rfl) ?_
  refine lv_iload_n hx hb dL_tables_222 rfl (lv_at hl 9 rfl) ?_
  refine lv_aload_n hx hb dL_tables_223 rfl (lv_at hl 8 rfl) ?_
  refine lv_iload_n hx hb dL_tables_224 rfl (lv_at hl 9 rfl) ?_
  refine lv_iload hx hb dL_tables_225 (lv_at hl 1 rfl) ?_
  refine c_iV (v := sp_X5_temperatureFor (μ.1 0) t (sp_X5_ratioAt (μ.1 0) t a).toInt64) (P := fun z => Same μ z) (a_iv (w := sp_X5_ratioAt (μ.1 0) t a) s28 h ht rga) hw (run_V (As := [.int (nI t), .int (sp_X5_ratioAt (μ.1 0) t a)]) (rest := [.int (nI t), .ref (E.1 231)]) (np := 2) hf hw (k_X7_inverse l E _ (nI t) (sp_X5_ratioAt (μ.1 0) t a)) ⟨gl_V q187 q188 q189 q2 q190, by decide +kernel⟩ ⟨rfl, rfl, Nat.le_of_ble_eq_true rfl, Nat.le_of_ble_eq_true rfl⟩ (by decide) (c_O E _) rfl rfl hl.1 rfl (Nat.le_of_ble_eq_true rfl) dL_tables_227 ⟨Nat.zero_le _, Nat.zero_le _⟩) (fun μ29 H locs s29 hw => ?_)
  refine c_iV (v := sp_X5_ratioAt (μ.1 0) t (sp_X5_temperatureFor (μ.1 0) t (sp_X5_ratioAt (μ.1 0) t a).toInt64)) (P := fun z => Same μ z) (a_ra (w := sp_X5_temperatureFor (μ.1 0) t (sp_X5_ratioAt (μ.1 0) t a).toInt64) s29 h ht ia.1 ia.2.1) hw (run_V (As := [.int (nI t), .int (sp_X5_temperatureFor (μ.1 0) t (sp_X5_ratioAt (μ.1 0) t a).toInt64)]) (rest := []) (np := 2) hf hw (k_X7_ratio l E _ (nI t) (sp_X5_temperatureFor (μ.1 0) t (sp_X5_ratioAt (μ.1 0) t a).toInt64)) ⟨gl_V q168 q169 q170 q2 q171, by decide +kernel⟩ ⟨rfl, rfl, Nat.le_of_ble_eq_true rfl, Nat.le_of_ble_eq_true rfl⟩ (by decide) (c_O E _) rfl rfl hl.1 rfl (Nat.le_of_ble_eq_true rfl) dL_tables_230 ⟨Nat.zero_le _, Nat.zero_le _⟩) (fun μ30 H locs s30 hw => ?_)
  refine lv_iload hx hb dL_tables_233 (lv_at hl 1 rfl) ?_
  refine lv_icmp_lt (tgt := 259) hx hb dL_tables_235 (by decide) (fun c => absurd c (by rw [Int32.lt_iff_toInt_lt, rat_val hT ia.1 ia.2.1, va]; exact Int.not_lt.mpr ia.2.2.1)) (fun _ => ?_)
  refine lv_aload_n hx hb dL_tables_238 rfl (lv_at hl 8 rfl) ?_
  refine lv_iload_n hx hb dL_tables_239 rfl (lv_at hl 9 rfl) ?_
  refine lv_iload hx hb dL_tables_240 (lv_at hl 1 rfl) ?_
  refine c_iV (v := sp_X5_temperatureFor (μ.1 0) t (sp_X5_ratioAt (μ.1 0) t a).toInt64) (P := fun z => Same μ z) (a_iv (w := sp_X5_ratioAt (μ.1 0) t a) s30 h ht rga) hw (run_V (As := [.int (nI t), .int (sp_X5_ratioAt (μ.1 0) t a)]) (rest := []) (np := 2) hf hw (k_X7_inverse l E _ (nI t) (sp_X5_ratioAt (μ.1 0) t a)) ⟨gl_V q187 q188 q189 q2 q190, by decide +kernel⟩ ⟨rfl, rfl, Nat.le_of_ble_eq_true rfl, Nat.le_of_ble_eq_true rfl⟩ (by decide) (c_O E _) rfl rfl hl.1 rfl (Nat.le_of_ble_eq_true rfl) dL_tables_242 ⟨Nat.zero_le _, Nat.zero_le _⟩) (fun μ31 H locs s31 hw => ?_)
  refine lv_aload_n hx hb dL_tables_245 rfl (lv_at hl 8 rfl) ?_
  refine lv_iload_n hx hb dL_tables_246 rfl (lv_at hl 9 rfl) ?_
  refine lv_iload hx hb dL_tables_247 (lv_at hl 0 rfl) ?_
  refine c_iV (v := sp_X5_temperatureFor (μ.1 0) t (sp_X5_ratioAt (μ.1 0) t b).toInt64) (P := fun z => Same μ z) (a_iv (w := sp_X5_ratioAt (μ.1 0) t b) s31 h ht rgb) hw (run_V (As := [.int (nI t), .int (sp_X5_ratioAt (μ.1 0) t b)]) (rest := [.int (sp_X5_temperatureFor (μ.1 0) t (sp_X5_ratioAt (μ.1 0) t a).toInt64)]) (np := 2) hf hw (k_X7_inverse l E _ (nI t) (sp_X5_ratioAt (μ.1 0) t b)) ⟨gl_V q187 q188 q189 q2 q190, by decide +kernel⟩ ⟨rfl, rfl, Nat.le_of_ble_eq_true rfl, Nat.le_of_ble_eq_true rfl⟩ (by decide) (c_O E _) rfl rfl hl.1 rfl (Nat.le_of_ble_eq_true rfl) dL_tables_249 ⟨Nat.zero_le _, Nat.zero_le _⟩) (fun μ32 H locs s32 hw => ?_)
  refine lv_icmp_gt (tgt := 259) hx hb dL_tables_252 (by decide) (fun c => absurd c (by rw [Int32.lt_iff_toInt_lt]; exact Int.not_lt.mpr (iv_mono ia ib mab))) (fun _ => ?_)
  refine lv_iconst (v := 1) hx hb dL_tables_255 (by decide) ?_
  refine lv_goto (tgt := 260) hx hb dL_tables_256 (by decide) ?_
  refine lv_istore (lv' := [(4, .int 1), (10, .int (sp_X5_ratioAt (μ.1 0) t b)), (9, .int (sp_X5_ratioAt (μ.1 0) t a)), (8, .int b), (7, .int a), (6, .int (μ.1 0 (tD t 3))), (5, .int (μ.1 0 (tD t 0))), (3, .int 4), (0, .ref (E.1 231)), (1, .int (nI t)), (2, .int y)]) hx hb dL_tables_260 hl (by decide) rfl (fun ls hl => ?_)
  refine lv_iload hx hb dL_tables_262 (lv_at hl 0 rfl) ?_
  exact e_iP hf hr hlocks hw rfl (⟨rfl, s32⟩) dL_tables_264
