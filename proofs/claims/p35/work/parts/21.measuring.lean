/-! ===== OhmBridge: measuring ===== -/
def sp_X7_calibrate (μ : Mu)  (a : Int32) (b : Int32) : Int32 × Mu :=
  oc (sp_X4_sensorAt (μ.1 0)  a) (
    ((-2000000001), μ)) (fun t2 =>
    if (-200000 : Int64) ≤ b.toInt64 ∧ b.toInt64 ≤ 850000 then
      if (1 : Int64) ≤ ((dgn (μ.1 0) t2).toInt64) ∧ ((dgn (μ.1 0) t2).toInt64) ≤ (4 : Int64) then
        ((-2000000002), msr μ 0 t2)
      else
        if (sp_X4_canBring (μ.1 0) t2 b : Int32) = 0 then
          ((-2000000002), msr μ 0 t2)
        else
          if (1000 : Int64) ≤ (sp_X4_baseFor (μ.1 0) t2 (wop (μ.1 0) t2) b) ∧ (sp_X4_baseFor (μ.1 0) t2 (wop (μ.1 0) t2) b) ≤ 2000000 then
            ((sp_X4_baseFor (μ.1 0) t2 (wop (μ.1 0) t2) b).toInt32, pM (sp_X0_record (msr μ 0 t2)  ) 0 (sF t2 3) ((sp_X4_baseFor (μ.1 0) t2 (wop (μ.1 0) t2) b).toInt32))
          else
            ((-2000000002), msr μ 0 t2)
    else
      ((-2000000001), μ))
def sp_X7_counts (μ : Mu)  (a : Int32) (cu : Int32) (lp : Int32) (wy : Int32) : Int32 × Mu :=
  oc (sp_X4_sensorAt (μ.1 0)  a) (
    ((-2000000001), μ)) (fun t2 =>
    if (100 : Int64) ≤ (cu.toInt64) ∧ (cu.toInt64) ≤ (5000 : Int64) then
      if (0 : Int64) ≤ (lp.toInt64) ∧ (lp.toInt64) ≤ (1 : Int64) then
        if (0 : Int64) ≤ (wy.toInt64) ∧ (wy.toInt64) ≤ (2 : Int64) then
          if (lp : Int32) = 1 then
            if (μ.1 0 (sF t2 1)) = 3 then
              if (lp : Int32) = 0 then
                if (lp : Int32) = 0 then
                  if (wy : Int32) = 2 then
                    ((((one (μ.1 0) t2 cu.toInt64) - (oth (μ.1 0) t2 cu.toInt64)) / 2).toInt32, tkJ μ 2 0 t2 cu)
                  else
                    if (wy : Int32) = 0 then
                      ((one (μ.1 0) t2 cu.toInt64).toInt32, tkJ μ 2 0 t2 cu)
                    else
                      ((oth (μ.1 0) t2 cu.toInt64).toInt32, tkJ μ 2 0 t2 cu)
                else
                  if (wy : Int32) = 2 then
                    ((((one (μ.1 0) t2 cu.toInt64) - (ot2 (μ.1 0) t2 cu.toInt64)) / 2).toInt32, tkJ μ 2 0 t2 cu)
                  else
                    if (wy : Int32) = 0 then
                      ((one (μ.1 0) t2 cu.toInt64).toInt32, tkJ μ 2 0 t2 cu)
                    else
                      ((ot2 (μ.1 0) t2 cu.toInt64).toInt32, tkJ μ 2 0 t2 cu)
              else
                if (lp : Int32) = 0 then
                  if (wy : Int32) = 2 then
                    ((((on2 (μ.1 0) t2 cu.toInt64) - (oth (μ.1 0) t2 cu.toInt64)) / 2).toInt32, tkJ μ 2 0 t2 cu)
                  else
                    if (wy : Int32) = 0 then
                      ((on2 (μ.1 0) t2 cu.toInt64).toInt32, tkJ μ 2 0 t2 cu)
                    else
                      ((oth (μ.1 0) t2 cu.toInt64).toInt32, tkJ μ 2 0 t2 cu)
                else
                  if (wy : Int32) = 2 then
                    ((((on2 (μ.1 0) t2 cu.toInt64) - (ot2 (μ.1 0) t2 cu.toInt64)) / 2).toInt32, tkJ μ 2 0 t2 cu)
                  else
                    if (wy : Int32) = 0 then
                      ((on2 (μ.1 0) t2 cu.toInt64).toInt32, tkJ μ 2 0 t2 cu)
                    else
                      ((ot2 (μ.1 0) t2 cu.toInt64).toInt32, tkJ μ 2 0 t2 cu)
            else
              ((-2000000004), μ)
          else
            if (lp : Int32) = 0 then
              if (lp : Int32) = 0 then
                if (wy : Int32) = 2 then
                  ((((one (μ.1 0) t2 cu.toInt64) - (oth (μ.1 0) t2 cu.toInt64)) / 2).toInt32, tkJ μ 2 0 t2 cu)
                else
                  if (wy : Int32) = 0 then
                    ((one (μ.1 0) t2 cu.toInt64).toInt32, tkJ μ 2 0 t2 cu)
                  else
                    ((oth (μ.1 0) t2 cu.toInt64).toInt32, tkJ μ 2 0 t2 cu)
              else
                if (wy : Int32) = 2 then
                  ((((one (μ.1 0) t2 cu.toInt64) - (ot2 (μ.1 0) t2 cu.toInt64)) / 2).toInt32, tkJ μ 2 0 t2 cu)
                else
                  if (wy : Int32) = 0 then
                    ((one (μ.1 0) t2 cu.toInt64).toInt32, tkJ μ 2 0 t2 cu)
                  else
                    ((ot2 (μ.1 0) t2 cu.toInt64).toInt32, tkJ μ 2 0 t2 cu)
            else
              if (lp : Int32) = 0 then
                if (wy : Int32) = 2 then
                  ((((on2 (μ.1 0) t2 cu.toInt64) - (oth (μ.1 0) t2 cu.toInt64)) / 2).toInt32, tkJ μ 2 0 t2 cu)
                else
                  if (wy : Int32) = 0 then
                    ((on2 (μ.1 0) t2 cu.toInt64).toInt32, tkJ μ 2 0 t2 cu)
                  else
                    ((oth (μ.1 0) t2 cu.toInt64).toInt32, tkJ μ 2 0 t2 cu)
              else
                if (wy : Int32) = 2 then
                  ((((on2 (μ.1 0) t2 cu.toInt64) - (ot2 (μ.1 0) t2 cu.toInt64)) / 2).toInt32, tkJ μ 2 0 t2 cu)
                else
                  if (wy : Int32) = 0 then
                    ((on2 (μ.1 0) t2 cu.toInt64).toInt32, tkJ μ 2 0 t2 cu)
                  else
                    ((ot2 (μ.1 0) t2 cu.toInt64).toInt32, tkJ μ 2 0 t2 cu)
        else
          ((-2000000001), μ)
      else
        ((-2000000001), μ)
    else
      ((-2000000001), μ))
set_option maxHeartbeats 4000000 in
set_option maxRecDepth 100000 in
theorem k_X7_counts (l : Launch) (E : En) (μ : Mu)  (a : Int32) (cu : Int32) (lp : Int32) (wy : Int32)  : MtI l yX7_counts cX7_counts 10 .int ({ frames := 3, cells := 0, slots := 0, locals := 85 }) [.ref (E.1 (231)), .int (a), .int (cu), .int (lp), .int (wy)] E μ (sp_X7_counts μ a cu lp wy) := by
  refine mt_of (by decide +kernel) (Nat.le_of_ble_eq_true rfl) ?_
  intro p e s m args below meth c ls hf hr hlocks hl hw
  have hx := hf.1
  have hb := hf.2.1
  have hl : lv_has ls 10 [(0, .ref (E.1 (231))), (1, .int (a)), (2, .int (cu)), (3, .int (lp)), (4, .int (wy))] := hl
  refine lv_aload_n hx hb dX7_counts_0 rfl (lv_at hl 0 rfl) ?_
  refine g_f hw hf (by decide) (c_O E _) rfl inlX7 0 (by decide) rfl q23 rfl dX7_counts_1 ?_
  refine lv_iload_n hx hb dX7_counts_4 rfl (lv_at hl 1 rfl) ?_
  refine c_q hw (run_V (As := [.int (a)]) (rest := []) (np := 1) hf hw (k_X4_sensorAt l E _ (by decide) a  ) ⟨gl_V q220 q221 q222 q22 q223, by decide +kernel⟩ ⟨rfl, rfl, Nat.le_of_ble_eq_true rfl, Nat.le_of_ble_eq_true rfl⟩ (lt_iS (by decide)) (c_iS E _ (by decide)) rfl rfl hl.1 rfl (Nat.le_of_ble_eq_true rfl) dX7_counts_5 ⟨Nat.zero_le _, Nat.zero_le _⟩) (fun H locs hw => ?_)
  rcases o1 : sp_X4_sensorAt (μ.1 0)  a with _ | t2
  · refine W.eq (g2 := F0 m 8 ls [.null]) rfl ?_
    refine lv_astoreN (lv' := [(5, .null), (0, .ref (E.1 (231))), (1, .int (a)), (2, .int (cu)), (3, .int (lp)), (4, .int (wy))]) hx hb dX7_counts_8 hl (by decide) rfl (fun ls hl => ?_)
    refine lv_aloadN hx hb dX7_counts_10 (lv_at hl 0 rfl) ?_
    refine lv_ifnullN (tgt := 52) hx hb dX7_counts_12 (by decide) ?_
    refine lv_ldc hx hb hf.2.2.2.1 (hf.2.2.2.2 _ q113) dX7_counts_52 ?_
    exact e_i hf hr hlocks hw rfl ((oc_none o1).trans rfl) dX7_counts_54
  · have ht3 : t2 < 6 := (b_X4_sensorAt o1)
    refine W.eq (g2 := F0 m 8 ls [.ref (E.1 (iN 0 t2))]) rfl ?_
    refine lv_astore (lv' := [(5, .ref (E.1 (iN 0 t2))), (0, .ref (E.1 (231))), (1, .int (a)), (2, .int (cu)), (3, .int (lp)), (4, .int (wy))]) hx hb dX7_counts_8 hl (by decide) rfl (fun ls hl => ?_)
    refine lv_aload hx hb dX7_counts_10 (lv_at hl 0 rfl) ?_
    refine lv_ifnull hx hb dX7_counts_12 ?_
    refine lv_iload_n hx hb dX7_counts_15 rfl (lv_at hl 3 rfl) ?_
    refine lv_i2l hx hb dX7_counts_16 rfl ?_
    refine lv_ldc2 hx hb hf.2.2.2.1 (hf.2.2.2.2 _ q363) dX7_counts_17 ?_
    refine lv_ldc2 hx hb hf.2.2.2.1 (hf.2.2.2.2 _ q364) dX7_counts_20 ?_
    refine c_iR hw (run_S (As := [.long (cu.toInt64), .long (100), .long (5000)]) (rest := []) (np := 3) hf hw (kn_X7_isWithin l E _  (cu.toInt64) (100 : Int64) (5000 : Int64)  ) ⟨gl_S q114 q115 q2 q116, by decide +kernel⟩ ⟨rfl, rfl, Nat.le_of_ble_eq_true rfl, Nat.le_of_ble_eq_true rfl⟩ rfl hl.1 rfl (Nat.le_of_ble_eq_true rfl) dX7_counts_23 ⟨Nat.zero_le _, Nat.zero_le _⟩) (fun H locs hw => ?_)
    refine lv_if_eq (tgt := 52) hx hb dX7_counts_26 (by decide) (fun c4 => ?_) (fun c4 => ?_)
    · replace c4 := (bz_0 _).mp c4
      refine lv_ldc hx hb hf.2.2.2.1 (hf.2.2.2.2 _ q113) dX7_counts_52 ?_
      exact e_i hf hr hlocks hw rfl ((oc_some o1).trans ((if_neg c4).trans rfl)) dX7_counts_54
    · replace c4 := (bz_n0 _).mp c4
      refine lv_iload_n hx hb dX7_counts_29 rfl (lv_at hl 4 rfl) ?_
      refine lv_i2l hx hb dX7_counts_30 rfl ?_
      refine lv_lconst (v := 0) hx hb dX7_counts_31 (by decide) ?_
      refine lv_lconst (v := 1) hx hb dX7_counts_32 (by decide) ?_
      refine c_iR hw (run_S (As := [.long (lp.toInt64), .long (0), .long (1)]) (rest := []) (np := 3) hf hw (kn_X7_isWithin l E _  (lp.toInt64) (0 : Int64) (1 : Int64)  ) ⟨gl_S q114 q115 q2 q116, by decide +kernel⟩ ⟨rfl, rfl, Nat.le_of_ble_eq_true rfl, Nat.le_of_ble_eq_true rfl⟩ rfl hl.1 rfl (Nat.le_of_ble_eq_true rfl) dX7_counts_33 ⟨Nat.zero_le _, Nat.zero_le _⟩) (fun H locs hw => ?_)
      refine lv_if_eq (tgt := 52) hx hb dX7_counts_36 (by decide) (fun c5 => ?_) (fun c5 => ?_)
      · replace c5 := (bz_0 _).mp c5
        refine lv_ldc hx hb hf.2.2.2.1 (hf.2.2.2.2 _ q113) dX7_counts_52 ?_
        exact e_i hf hr hlocks hw rfl ((oc_some o1).trans ((if_pos c4).trans ((if_neg c5).trans rfl))) dX7_counts_54
      · replace c5 := (bz_n0 _).mp c5
        refine lv_iload hx hb dX7_counts_39 (lv_at hl 5 rfl) ?_
        refine lv_i2l hx hb dX7_counts_41 rfl ?_
        refine lv_lconst (v := 0) hx hb dX7_counts_42 (by decide) ?_
        refine lv_ldc2 hx hb hf.2.2.2.1 (hf.2.2.2.2 _ q357) dX7_counts_43 ?_
        refine c_iR hw (run_S (As := [.long (wy.toInt64), .long (0), .long (2)]) (rest := []) (np := 3) hf hw (kn_X7_isWithin l E _  (wy.toInt64) (0 : Int64) (2 : Int64)  ) ⟨gl_S q114 q115 q2 q116, by decide +kernel⟩ ⟨rfl, rfl, Nat.le_of_ble_eq_true rfl, Nat.le_of_ble_eq_true rfl⟩ rfl hl.1 rfl (Nat.le_of_ble_eq_true rfl) dX7_counts_46 ⟨Nat.zero_le _, Nat.zero_le _⟩) (fun H locs hw => ?_)
        refine lv_if_ne (tgt := 55) hx hb dX7_counts_49 (by decide) (fun c6 => ?_) (fun c6 => ?_)
        · replace c6 := (bz_n0 _).mp c6
          refine lv_iload_n hx hb dX7_counts_55 rfl (lv_at hl 4 rfl) ?_
          refine lv_iconst (v := 1) hx hb dX7_counts_56 (by decide) ?_
          refine lv_icmp_ne (tgt := 71) hx hb dX7_counts_57 (by decide) (fun c7 => ?_) (fun c7 => ?_)
          · refine lv_aload_n hx hb dX7_counts_71 rfl (lv_at hl 1 rfl) ?_
            refine g_f hw hf (by decide) (c_O E _) rfl inlX7 4 (by decide) rfl q36 rfl dX7_counts_72 ?_
            refine lv_aload_n hx hb dX7_counts_75 rfl (lv_at hl 1 rfl) ?_
            refine g_f hw hf (by decide) (c_O E _) rfl inlX7 0 (by decide) rfl q23 rfl dX7_counts_76 ?_
            refine lv_aload hx hb dX7_counts_79 (lv_at hl 0 rfl) ?_
            refine lv_iload_n hx hb dX7_counts_81 rfl (lv_at hl 3 rfl) ?_
            refine c_v hw (run_V (As := [.ref (E.1 (iS 0)), .ref (E.1 (iN 0 t2)), .int (cu)]) (rest := []) (np := 3) hf hw (kn_X1_take l E _ (by decide) (by decide) ht3 cu  ) ⟨gl_V q370 q261 q262 q35 q263, by decide +kernel⟩ ⟨rfl, rfl, Nat.le_of_ble_eq_true rfl, Nat.le_of_ble_eq_true rfl⟩ (lt_iM (by decide)) (c_iM E _ (by decide)) rfl rfl hl.1 rfl (Nat.le_of_ble_eq_true rfl) dX7_counts_82 ⟨Nat.zero_le _, Nat.zero_le _⟩) (fun H locs hw => ?_)
            refine lv_iload_n hx hb dX7_counts_85 rfl (lv_at hl 4 rfl) ?_
            refine lv_if_ne (tgt := 99) hx hb dX7_counts_86 (by decide) (fun c8 => ?_) (fun c8 => ?_)
            · refine lv_aload_n hx hb dX7_counts_99 rfl (lv_at hl 1 rfl) ?_
              refine g_f hw hf (by decide) (c_O E _) rfl inlX7 4 (by decide) rfl q36 rfl dX7_counts_100 ?_
              refine g_f hw hf (lt_iM (by decide)) (c_iM E _ (by decide)) rfl inlX1 3 (by decide) rfl q366 (congrArg (fun z => some (Value.long z)) (show _ = on2 (μ.1 0) t2 cu.toInt64 from (by first | (simp [pM, pJ, upM, upJ, sF, tN, tD, tR, tk_M, tk_K, tk_0, tk_1, tk_2, tk_3, tk_4, tk_5, tk_6, tk_7, tk_8, tk_9, tk_10, tk_o, ms_0_0, ms_0_1, ms_0_2, ms_0_3, ms_0_4, ms_0_5, ms_0_6, ms_0_7, ms_0_8, ms_0_9, ms_0_10, ms_1_0, ms_1_1, ms_1_2, ms_1_3, ms_1_4, ms_1_5, ms_1_6, ms_1_7, ms_1_8, ms_1_9, ms_1_10, ms_w, ms_r, ms_d, ms_M, ms_6, ms_K]; done) | (simp (disch := (first | omega | (simp only [tN, tD, tR, sF]; omega))) only [pM, pJ, upM_s, upM_k, upM_c, upJ_s, upJ_k, upJ_c, tk_M, tk_K, tk_0, tk_1, tk_2, tk_3, tk_4, tk_5, tk_6, tk_7, tk_8, tk_9, tk_10, tk_o, ms_0_0, ms_0_1, ms_0_2, ms_0_3, ms_0_4, ms_0_5, ms_0_6, ms_0_7, ms_0_8, ms_0_9, ms_0_10, ms_1_0, ms_1_1, ms_1_2, ms_1_3, ms_1_4, ms_1_5, ms_1_6, ms_1_7, ms_1_8, ms_1_9, ms_1_10, ms_w, ms_r, ms_d, ms_M, ms_6, ms_K])))) dX7_counts_103 ?_
              refine lv_lstore (lv' := [(6, .long (on2 (μ.1 0) t2 cu.toInt64)), (5, .ref (E.1 (iN 0 t2))), (0, .ref (E.1 (231))), (1, .int (a)), (2, .int (cu)), (3, .int (lp)), (4, .int (wy))]) hx hb dX7_counts_106 hl (by decide) rfl (fun ls hl => ?_)
              refine lv_iload_n hx hb dX7_counts_108 rfl (lv_at hl 5 rfl) ?_
              refine lv_if_ne (tgt := 122) hx hb dX7_counts_109 (by decide) (fun c9 => ?_) (fun c9 => ?_)
              · refine lv_aload_n hx hb dX7_counts_122 rfl (lv_at hl 2 rfl) ?_
                refine g_f hw hf (by decide) (c_O E _) rfl inlX7 4 (by decide) rfl q36 rfl dX7_counts_123 ?_
                refine g_f hw hf (lt_iM (by decide)) (c_iM E _ (by decide)) rfl inlX1 4 (by decide) rfl q368 (congrArg (fun z => some (Value.long z)) (show _ = ot2 (μ.1 0) t2 cu.toInt64 from (by first | (simp [pM, pJ, upM, upJ, sF, tN, tD, tR, tk_M, tk_K, tk_0, tk_1, tk_2, tk_3, tk_4, tk_5, tk_6, tk_7, tk_8, tk_9, tk_10, tk_o, ms_0_0, ms_0_1, ms_0_2, ms_0_3, ms_0_4, ms_0_5, ms_0_6, ms_0_7, ms_0_8, ms_0_9, ms_0_10, ms_1_0, ms_1_1, ms_1_2, ms_1_3, ms_1_4, ms_1_5, ms_1_6, ms_1_7, ms_1_8, ms_1_9, ms_1_10, ms_w, ms_r, ms_d, ms_M, ms_6, ms_K]; done) | (simp (disch := (first | omega | (simp only [tN, tD, tR, sF]; omega))) only [pM, pJ, upM_s, upM_k, upM_c, upJ_s, upJ_k, upJ_c, tk_M, tk_K, tk_0, tk_1, tk_2, tk_3, tk_4, tk_5, tk_6, tk_7, tk_8, tk_9, tk_10, tk_o, ms_0_0, ms_0_1, ms_0_2, ms_0_3, ms_0_4, ms_0_5, ms_0_6, ms_0_7, ms_0_8, ms_0_9, ms_0_10, ms_1_0, ms_1_1, ms_1_2, ms_1_3, ms_1_4, ms_1_5, ms_1_6, ms_1_7, ms_1_8, ms_1_9, ms_1_10, ms_w, ms_r, ms_d, ms_M, ms_6, ms_K])))) dX7_counts_126 ?_
                refine lv_lstore (lv' := [(8, .long (ot2 (μ.1 0) t2 cu.toInt64)), (6, .long (on2 (μ.1 0) t2 cu.toInt64)), (5, .ref (E.1 (iN 0 t2))), (0, .ref (E.1 (231))), (1, .int (a)), (2, .int (cu)), (3, .int (lp)), (4, .int (wy))]) hx hb dX7_counts_129 hl (by decide) rfl (fun ls hl => ?_)
                refine lv_iload hx hb dX7_counts_131 (lv_at hl 7 rfl) ?_
                refine lv_iconst (v := 2) hx hb dX7_counts_133 (by decide) ?_
                refine lv_icmp_ne (tgt := 148) hx hb dX7_counts_134 (by decide) (fun c10 => ?_) (fun c10 => ?_)
                · refine lv_iload hx hb dX7_counts_148 (lv_at hl 7 rfl) ?_
                  refine lv_if_ne (tgt := 158) hx hb dX7_counts_150 (by decide) (fun c11 => ?_) (fun c11 => ?_)
                  · refine lv_lload hx hb dX7_counts_158 (lv_at hl 0 rfl) ?_
                    refine lv_l2i hx hb dX7_counts_160 rfl ?_
                    exact e_i hf hr hlocks hw rfl ((oc_some o1).trans ((if_pos c4).trans ((if_pos c5).trans ((if_pos c6).trans ((if_neg c7).trans ((if_neg c8).trans ((if_neg c9).trans ((if_neg c10).trans ((if_neg c11).trans rfl))))))))) dX7_counts_161
                  · refine lv_lload hx hb dX7_counts_153 (lv_at hl 1 rfl) ?_
                    refine lv_goto (tgt := 160) hx hb dX7_counts_155 (by decide) ?_
                    refine lv_l2i hx hb dX7_counts_160 rfl ?_
                    exact e_i hf hr hlocks hw rfl ((oc_some o1).trans ((if_pos c4).trans ((if_pos c5).trans ((if_pos c6).trans ((if_neg c7).trans ((if_neg c8).trans ((if_neg c9).trans ((if_neg c10).trans ((if_pos c11).trans rfl))))))))) dX7_counts_161
                · refine lv_lload hx hb dX7_counts_137 (lv_at hl 1 rfl) ?_
                  refine lv_lload hx hb dX7_counts_139 (lv_at hl 0 rfl) ?_
                  refine lv_lsub hx hb dX7_counts_141 ?_
                  refine lv_ldc2 hx hb hf.2.2.2.1 (hf.2.2.2.2 _ q357) dX7_counts_142 ?_
                  refine lv_ldiv hx hb dX7_counts_145 (by decide) ?_
                  refine lv_l2i hx hb dX7_counts_146 rfl ?_
                  exact e_i hf hr hlocks hw rfl ((oc_some o1).trans ((if_pos c4).trans ((if_pos c5).trans ((if_pos c6).trans ((if_neg c7).trans ((if_neg c8).trans ((if_neg c9).trans ((if_pos c10).trans rfl)))))))) dX7_counts_147
              · refine lv_aload_n hx hb dX7_counts_112 rfl (lv_at hl 2 rfl) ?_
                refine g_f hw hf (by decide) (c_O E _) rfl inlX7 4 (by decide) rfl q36 rfl dX7_counts_113 ?_
                refine g_f hw hf (lt_iM (by decide)) (c_iM E _ (by decide)) rfl inlX1 2 (by decide) rfl q367 (congrArg (fun z => some (Value.long z)) (show _ = oth (μ.1 0) t2 cu.toInt64 from (by first | (simp [pM, pJ, upM, upJ, sF, tN, tD, tR, tk_M, tk_K, tk_0, tk_1, tk_2, tk_3, tk_4, tk_5, tk_6, tk_7, tk_8, tk_9, tk_10, tk_o, ms_0_0, ms_0_1, ms_0_2, ms_0_3, ms_0_4, ms_0_5, ms_0_6, ms_0_7, ms_0_8, ms_0_9, ms_0_10, ms_1_0, ms_1_1, ms_1_2, ms_1_3, ms_1_4, ms_1_5, ms_1_6, ms_1_7, ms_1_8, ms_1_9, ms_1_10, ms_w, ms_r, ms_d, ms_M, ms_6, ms_K]; done) | (simp (disch := (first | omega | (simp only [tN, tD, tR, sF]; omega))) only [pM, pJ, upM_s, upM_k, upM_c, upJ_s, upJ_k, upJ_c, tk_M, tk_K, tk_0, tk_1, tk_2, tk_3, tk_4, tk_5, tk_6, tk_7, tk_8, tk_9, tk_10, tk_o, ms_0_0, ms_0_1, ms_0_2, ms_0_3, ms_0_4, ms_0_5, ms_0_6, ms_0_7, ms_0_8, ms_0_9, ms_0_10, ms_1_0, ms_1_1, ms_1_2, ms_1_3, ms_1_4, ms_1_5, ms_1_6, ms_1_7, ms_1_8, ms_1_9, ms_1_10, ms_w, ms_r, ms_d, ms_M, ms_6, ms_K])))) dX7_counts_116 ?_
                refine lv_goto (tgt := 129) hx hb dX7_counts_119 (by decide) ?_
                refine lv_lstore (lv' := [(8, .long (oth (μ.1 0) t2 cu.toInt64)), (6, .long (on2 (μ.1 0) t2 cu.toInt64)), (5, .ref (E.1 (iN 0 t2))), (0, .ref (E.1 (231))), (1, .int (a)), (2, .int (cu)), (3, .int (lp)), (4, .int (wy))]) hx hb dX7_counts_129 hl (by decide) rfl (fun ls hl => ?_)
                refine lv_iload hx hb dX7_counts_131 (lv_at hl 7 rfl) ?_
                refine lv_iconst (v := 2) hx hb dX7_counts_133 (by decide) ?_
                refine lv_icmp_ne (tgt := 148) hx hb dX7_counts_134 (by decide) (fun c12 => ?_) (fun c12 => ?_)
                · refine lv_iload hx hb dX7_counts_148 (lv_at hl 7 rfl) ?_
                  refine lv_if_ne (tgt := 158) hx hb dX7_counts_150 (by decide) (fun c13 => ?_) (fun c13 => ?_)
                  · refine lv_lload hx hb dX7_counts_158 (lv_at hl 0 rfl) ?_
                    refine lv_l2i hx hb dX7_counts_160 rfl ?_
                    exact e_i hf hr hlocks hw rfl ((oc_some o1).trans ((if_pos c4).trans ((if_pos c5).trans ((if_pos c6).trans ((if_neg c7).trans ((if_neg c8).trans ((if_pos c9).trans ((if_neg c12).trans ((if_neg c13).trans rfl))))))))) dX7_counts_161
                  · refine lv_lload hx hb dX7_counts_153 (lv_at hl 1 rfl) ?_
                    refine lv_goto (tgt := 160) hx hb dX7_counts_155 (by decide) ?_
                    refine lv_l2i hx hb dX7_counts_160 rfl ?_
                    exact e_i hf hr hlocks hw rfl ((oc_some o1).trans ((if_pos c4).trans ((if_pos c5).trans ((if_pos c6).trans ((if_neg c7).trans ((if_neg c8).trans ((if_pos c9).trans ((if_neg c12).trans ((if_pos c13).trans rfl))))))))) dX7_counts_161
                · refine lv_lload hx hb dX7_counts_137 (lv_at hl 1 rfl) ?_
                  refine lv_lload hx hb dX7_counts_139 (lv_at hl 0 rfl) ?_
                  refine lv_lsub hx hb dX7_counts_141 ?_
                  refine lv_ldc2 hx hb hf.2.2.2.1 (hf.2.2.2.2 _ q357) dX7_counts_142 ?_
                  refine lv_ldiv hx hb dX7_counts_145 (by decide) ?_
                  refine lv_l2i hx hb dX7_counts_146 rfl ?_
                  exact e_i hf hr hlocks hw rfl ((oc_some o1).trans ((if_pos c4).trans ((if_pos c5).trans ((if_pos c6).trans ((if_neg c7).trans ((if_neg c8).trans ((if_pos c9).trans ((if_pos c12).trans rfl)))))))) dX7_counts_147
            · refine lv_aload_n hx hb dX7_counts_89 rfl (lv_at hl 1 rfl) ?_
              refine g_f hw hf (by decide) (c_O E _) rfl inlX7 4 (by decide) rfl q36 rfl dX7_counts_90 ?_
              refine g_f hw hf (lt_iM (by decide)) (c_iM E _ (by decide)) rfl inlX1 1 (by decide) rfl q365 (congrArg (fun z => some (Value.long z)) (show _ = one (μ.1 0) t2 cu.toInt64 from (by first | (simp [pM, pJ, upM, upJ, sF, tN, tD, tR, tk_M, tk_K, tk_0, tk_1, tk_2, tk_3, tk_4, tk_5, tk_6, tk_7, tk_8, tk_9, tk_10, tk_o, ms_0_0, ms_0_1, ms_0_2, ms_0_3, ms_0_4, ms_0_5, ms_0_6, ms_0_7, ms_0_8, ms_0_9, ms_0_10, ms_1_0, ms_1_1, ms_1_2, ms_1_3, ms_1_4, ms_1_5, ms_1_6, ms_1_7, ms_1_8, ms_1_9, ms_1_10, ms_w, ms_r, ms_d, ms_M, ms_6, ms_K]; done) | (simp (disch := (first | omega | (simp only [tN, tD, tR, sF]; omega))) only [pM, pJ, upM_s, upM_k, upM_c, upJ_s, upJ_k, upJ_c, tk_M, tk_K, tk_0, tk_1, tk_2, tk_3, tk_4, tk_5, tk_6, tk_7, tk_8, tk_9, tk_10, tk_o, ms_0_0, ms_0_1, ms_0_2, ms_0_3, ms_0_4, ms_0_5, ms_0_6, ms_0_7, ms_0_8, ms_0_9, ms_0_10, ms_1_0, ms_1_1, ms_1_2, ms_1_3, ms_1_4, ms_1_5, ms_1_6, ms_1_7, ms_1_8, ms_1_9, ms_1_10, ms_w, ms_r, ms_d, ms_M, ms_6, ms_K])))) dX7_counts_93 ?_
              refine lv_goto (tgt := 106) hx hb dX7_counts_96 (by decide) ?_
              refine lv_lstore (lv' := [(6, .long (one (μ.1 0) t2 cu.toInt64)), (5, .ref (E.1 (iN 0 t2))), (0, .ref (E.1 (231))), (1, .int (a)), (2, .int (cu)), (3, .int (lp)), (4, .int (wy))]) hx hb dX7_counts_106 hl (by decide) rfl (fun ls hl => ?_)
              refine lv_iload_n hx hb dX7_counts_108 rfl (lv_at hl 5 rfl) ?_
              refine lv_if_ne (tgt := 122) hx hb dX7_counts_109 (by decide) (fun c14 => ?_) (fun c14 => ?_)
              · refine lv_aload_n hx hb dX7_counts_122 rfl (lv_at hl 2 rfl) ?_
                refine g_f hw hf (by decide) (c_O E _) rfl inlX7 4 (by decide) rfl q36 rfl dX7_counts_123 ?_
                refine g_f hw hf (lt_iM (by decide)) (c_iM E _ (by decide)) rfl inlX1 4 (by decide) rfl q368 (congrArg (fun z => some (Value.long z)) (show _ = ot2 (μ.1 0) t2 cu.toInt64 from (by first | (simp [pM, pJ, upM, upJ, sF, tN, tD, tR, tk_M, tk_K, tk_0, tk_1, tk_2, tk_3, tk_4, tk_5, tk_6, tk_7, tk_8, tk_9, tk_10, tk_o, ms_0_0, ms_0_1, ms_0_2, ms_0_3, ms_0_4, ms_0_5, ms_0_6, ms_0_7, ms_0_8, ms_0_9, ms_0_10, ms_1_0, ms_1_1, ms_1_2, ms_1_3, ms_1_4, ms_1_5, ms_1_6, ms_1_7, ms_1_8, ms_1_9, ms_1_10, ms_w, ms_r, ms_d, ms_M, ms_6, ms_K]; done) | (simp (disch := (first | omega | (simp only [tN, tD, tR, sF]; omega))) only [pM, pJ, upM_s, upM_k, upM_c, upJ_s, upJ_k, upJ_c, tk_M, tk_K, tk_0, tk_1, tk_2, tk_3, tk_4, tk_5, tk_6, tk_7, tk_8, tk_9, tk_10, tk_o, ms_0_0, ms_0_1, ms_0_2, ms_0_3, ms_0_4, ms_0_5, ms_0_6, ms_0_7, ms_0_8, ms_0_9, ms_0_10, ms_1_0, ms_1_1, ms_1_2, ms_1_3, ms_1_4, ms_1_5, ms_1_6, ms_1_7, ms_1_8, ms_1_9, ms_1_10, ms_w, ms_r, ms_d, ms_M, ms_6, ms_K])))) dX7_counts_126 ?_
                refine lv_lstore (lv' := [(8, .long (ot2 (μ.1 0) t2 cu.toInt64)), (6, .long (one (μ.1 0) t2 cu.toInt64)), (5, .ref (E.1 (iN 0 t2))), (0, .ref (E.1 (231))), (1, .int (a)), (2, .int (cu)), (3, .int (lp)), (4, .int (wy))]) hx hb dX7_counts_129 hl (by decide) rfl (fun ls hl => ?_)
                refine lv_iload hx hb dX7_counts_131 (lv_at hl 7 rfl) ?_
                refine lv_iconst (v := 2) hx hb dX7_counts_133 (by decide) ?_
                refine lv_icmp_ne (tgt := 148) hx hb dX7_counts_134 (by decide) (fun c15 => ?_) (fun c15 => ?_)
                · refine lv_iload hx hb dX7_counts_148 (lv_at hl 7 rfl) ?_
                  refine lv_if_ne (tgt := 158) hx hb dX7_counts_150 (by decide) (fun c16 => ?_) (fun c16 => ?_)
                  · refine lv_lload hx hb dX7_counts_158 (lv_at hl 0 rfl) ?_
                    refine lv_l2i hx hb dX7_counts_160 rfl ?_
                    exact e_i hf hr hlocks hw rfl ((oc_some o1).trans ((if_pos c4).trans ((if_pos c5).trans ((if_pos c6).trans ((if_neg c7).trans ((if_pos c8).trans ((if_neg c14).trans ((if_neg c15).trans ((if_neg c16).trans rfl))))))))) dX7_counts_161
                  · refine lv_lload hx hb dX7_counts_153 (lv_at hl 1 rfl) ?_
                    refine lv_goto (tgt := 160) hx hb dX7_counts_155 (by decide) ?_
                    refine lv_l2i hx hb dX7_counts_160 rfl ?_
                    exact e_i hf hr hlocks hw rfl ((oc_some o1).trans ((if_pos c4).trans ((if_pos c5).trans ((if_pos c6).trans ((if_neg c7).trans ((if_pos c8).trans ((if_neg c14).trans ((if_neg c15).trans ((if_pos c16).trans rfl))))))))) dX7_counts_161
                · refine lv_lload hx hb dX7_counts_137 (lv_at hl 1 rfl) ?_
                  refine lv_lload hx hb dX7_counts_139 (lv_at hl 0 rfl) ?_
                  refine lv_lsub hx hb dX7_counts_141 ?_
                  refine lv_ldc2 hx hb hf.2.2.2.1 (hf.2.2.2.2 _ q357) dX7_counts_142 ?_
                  refine lv_ldiv hx hb dX7_counts_145 (by decide) ?_
                  refine lv_l2i hx hb dX7_counts_146 rfl ?_
                  exact e_i hf hr hlocks hw rfl ((oc_some o1).trans ((if_pos c4).trans ((if_pos c5).trans ((if_pos c6).trans ((if_neg c7).trans ((if_pos c8).trans ((if_neg c14).trans ((if_pos c15).trans rfl)))))))) dX7_counts_147
              · refine lv_aload_n hx hb dX7_counts_112 rfl (lv_at hl 2 rfl) ?_
                refine g_f hw hf (by decide) (c_O E _) rfl inlX7 4 (by decide) rfl q36 rfl dX7_counts_113 ?_
                refine g_f hw hf (lt_iM (by decide)) (c_iM E _ (by decide)) rfl inlX1 2 (by decide) rfl q367 (congrArg (fun z => some (Value.long z)) (show _ = oth (μ.1 0) t2 cu.toInt64 from (by first | (simp [pM, pJ, upM, upJ, sF, tN, tD, tR, tk_M, tk_K, tk_0, tk_1, tk_2, tk_3, tk_4, tk_5, tk_6, tk_7, tk_8, tk_9, tk_10, tk_o, ms_0_0, ms_0_1, ms_0_2, ms_0_3, ms_0_4, ms_0_5, ms_0_6, ms_0_7, ms_0_8, ms_0_9, ms_0_10, ms_1_0, ms_1_1, ms_1_2, ms_1_3, ms_1_4, ms_1_5, ms_1_6, ms_1_7, ms_1_8, ms_1_9, ms_1_10, ms_w, ms_r, ms_d, ms_M, ms_6, ms_K]; done) | (simp (disch := (first | omega | (simp only [tN, tD, tR, sF]; omega))) only [pM, pJ, upM_s, upM_k, upM_c, upJ_s, upJ_k, upJ_c, tk_M, tk_K, tk_0, tk_1, tk_2, tk_3, tk_4, tk_5, tk_6, tk_7, tk_8, tk_9, tk_10, tk_o, ms_0_0, ms_0_1, ms_0_2, ms_0_3, ms_0_4, ms_0_5, ms_0_6, ms_0_7, ms_0_8, ms_0_9, ms_0_10, ms_1_0, ms_1_1, ms_1_2, ms_1_3, ms_1_4, ms_1_5, ms_1_6, ms_1_7, ms_1_8, ms_1_9, ms_1_10, ms_w, ms_r, ms_d, ms_M, ms_6, ms_K])))) dX7_counts_116 ?_
                refine lv_goto (tgt := 129) hx hb dX7_counts_119 (by decide) ?_
                refine lv_lstore (lv' := [(8, .long (oth (μ.1 0) t2 cu.toInt64)), (6, .long (one (μ.1 0) t2 cu.toInt64)), (5, .ref (E.1 (iN 0 t2))), (0, .ref (E.1 (231))), (1, .int (a)), (2, .int (cu)), (3, .int (lp)), (4, .int (wy))]) hx hb dX7_counts_129 hl (by decide) rfl (fun ls hl => ?_)
                refine lv_iload hx hb dX7_counts_131 (lv_at hl 7 rfl) ?_
                refine lv_iconst (v := 2) hx hb dX7_counts_133 (by decide) ?_
                refine lv_icmp_ne (tgt := 148) hx hb dX7_counts_134 (by decide) (fun c17 => ?_) (fun c17 => ?_)
                · refine lv_iload hx hb dX7_counts_148 (lv_at hl 7 rfl) ?_
                  refine lv_if_ne (tgt := 158) hx hb dX7_counts_150 (by decide) (fun c18 => ?_) (fun c18 => ?_)
                  · refine lv_lload hx hb dX7_counts_158 (lv_at hl 0 rfl) ?_
                    refine lv_l2i hx hb dX7_counts_160 rfl ?_
                    exact e_i hf hr hlocks hw rfl ((oc_some o1).trans ((if_pos c4).trans ((if_pos c5).trans ((if_pos c6).trans ((if_neg c7).trans ((if_pos c8).trans ((if_pos c14).trans ((if_neg c17).trans ((if_neg c18).trans rfl))))))))) dX7_counts_161
                  · refine lv_lload hx hb dX7_counts_153 (lv_at hl 1 rfl) ?_
                    refine lv_goto (tgt := 160) hx hb dX7_counts_155 (by decide) ?_
                    refine lv_l2i hx hb dX7_counts_160 rfl ?_
                    exact e_i hf hr hlocks hw rfl ((oc_some o1).trans ((if_pos c4).trans ((if_pos c5).trans ((if_pos c6).trans ((if_neg c7).trans ((if_pos c8).trans ((if_pos c14).trans ((if_neg c17).trans ((if_pos c18).trans rfl))))))))) dX7_counts_161
                · refine lv_lload hx hb dX7_counts_137 (lv_at hl 1 rfl) ?_
                  refine lv_lload hx hb dX7_counts_139 (lv_at hl 0 rfl) ?_
                  refine lv_lsub hx hb dX7_counts_141 ?_
                  refine lv_ldc2 hx hb hf.2.2.2.1 (hf.2.2.2.2 _ q357) dX7_counts_142 ?_
                  refine lv_ldiv hx hb dX7_counts_145 (by decide) ?_
                  refine lv_l2i hx hb dX7_counts_146 rfl ?_
                  exact e_i hf hr hlocks hw rfl ((oc_some o1).trans ((if_pos c4).trans ((if_pos c5).trans ((if_pos c6).trans ((if_neg c7).trans ((if_pos c8).trans ((if_pos c14).trans ((if_pos c17).trans rfl)))))))) dX7_counts_147
          · refine lv_aload hx hb dX7_counts_60 (lv_at hl 0 rfl) ?_
            refine c_iR hw (run_V (As := []) (rest := []) (np := 0) hf hw (kn_X3_isCompensated l E _ (by decide) ht3   ) ⟨gl_V q369 q313 q314 q56 q315, by decide +kernel⟩ ⟨rfl, rfl, Nat.le_of_ble_eq_true rfl, Nat.le_of_ble_eq_true rfl⟩ (lt_iN (by decide) ht3) (c_iN E _ (by decide) ht3) rfl rfl hl.1 rfl (Nat.le_of_ble_eq_true rfl) dX7_counts_62 ⟨Nat.zero_le _, Nat.zero_le _⟩) (fun H locs hw => ?_)
            refine lv_if_ne (tgt := 71) hx hb dX7_counts_65 (by decide) (fun c19 => ?_) (fun c19 => ?_)
            · replace c19 := (bz_n0 _).mp c19
              refine lv_aload_n hx hb dX7_counts_71 rfl (lv_at hl 1 rfl) ?_
              refine g_f hw hf (by decide) (c_O E _) rfl inlX7 4 (by decide) rfl q36 rfl dX7_counts_72 ?_
              refine lv_aload_n hx hb dX7_counts_75 rfl (lv_at hl 1 rfl) ?_
              refine g_f hw hf (by decide) (c_O E _) rfl inlX7 0 (by decide) rfl q23 rfl dX7_counts_76 ?_
              refine lv_aload hx hb dX7_counts_79 (lv_at hl 0 rfl) ?_
              refine lv_iload_n hx hb dX7_counts_81 rfl (lv_at hl 3 rfl) ?_
              refine c_v hw (run_V (As := [.ref (E.1 (iS 0)), .ref (E.1 (iN 0 t2)), .int (cu)]) (rest := []) (np := 3) hf hw (kn_X1_take l E _ (by decide) (by decide) ht3 cu  ) ⟨gl_V q370 q261 q262 q35 q263, by decide +kernel⟩ ⟨rfl, rfl, Nat.le_of_ble_eq_true rfl, Nat.le_of_ble_eq_true rfl⟩ (lt_iM (by decide)) (c_iM E _ (by decide)) rfl rfl hl.1 rfl (Nat.le_of_ble_eq_true rfl) dX7_counts_82 ⟨Nat.zero_le _, Nat.zero_le _⟩) (fun H locs hw => ?_)
              refine lv_iload_n hx hb dX7_counts_85 rfl (lv_at hl 4 rfl) ?_
              refine lv_if_ne (tgt := 99) hx hb dX7_counts_86 (by decide) (fun c20 => ?_) (fun c20 => ?_)
              · refine lv_aload_n hx hb dX7_counts_99 rfl (lv_at hl 1 rfl) ?_
                refine g_f hw hf (by decide) (c_O E _) rfl inlX7 4 (by decide) rfl q36 rfl dX7_counts_100 ?_
                refine g_f hw hf (lt_iM (by decide)) (c_iM E _ (by decide)) rfl inlX1 3 (by decide) rfl q366 (congrArg (fun z => some (Value.long z)) (show _ = on2 (μ.1 0) t2 cu.toInt64 from (by first | (simp [pM, pJ, upM, upJ, sF, tN, tD, tR, tk_M, tk_K, tk_0, tk_1, tk_2, tk_3, tk_4, tk_5, tk_6, tk_7, tk_8, tk_9, tk_10, tk_o, ms_0_0, ms_0_1, ms_0_2, ms_0_3, ms_0_4, ms_0_5, ms_0_6, ms_0_7, ms_0_8, ms_0_9, ms_0_10, ms_1_0, ms_1_1, ms_1_2, ms_1_3, ms_1_4, ms_1_5, ms_1_6, ms_1_7, ms_1_8, ms_1_9, ms_1_10, ms_w, ms_r, ms_d, ms_M, ms_6, ms_K]; done) | (simp (disch := (first | omega | (simp only [tN, tD, tR, sF]; omega))) only [pM, pJ, upM_s, upM_k, upM_c, upJ_s, upJ_k, upJ_c, tk_M, tk_K, tk_0, tk_1, tk_2, tk_3, tk_4, tk_5, tk_6, tk_7, tk_8, tk_9, tk_10, tk_o, ms_0_0, ms_0_1, ms_0_2, ms_0_3, ms_0_4, ms_0_5, ms_0_6, ms_0_7, ms_0_8, ms_0_9, ms_0_10, ms_1_0, ms_1_1, ms_1_2, ms_1_3, ms_1_4, ms_1_5, ms_1_6, ms_1_7, ms_1_8, ms_1_9, ms_1_10, ms_w, ms_r, ms_d, ms_M, ms_6, ms_K])))) dX7_counts_103 ?_
                refine lv_lstore (lv' := [(6, .long (on2 (μ.1 0) t2 cu.toInt64)), (5, .ref (E.1 (iN 0 t2))), (0, .ref (E.1 (231))), (1, .int (a)), (2, .int (cu)), (3, .int (lp)), (4, .int (wy))]) hx hb dX7_counts_106 hl (by decide) rfl (fun ls hl => ?_)
                refine lv_iload_n hx hb dX7_counts_108 rfl (lv_at hl 5 rfl) ?_
                refine lv_if_ne (tgt := 122) hx hb dX7_counts_109 (by decide) (fun c21 => ?_) (fun c21 => ?_)
                · refine lv_aload_n hx hb dX7_counts_122 rfl (lv_at hl 2 rfl) ?_
                  refine g_f hw hf (by decide) (c_O E _) rfl inlX7 4 (by decide) rfl q36 rfl dX7_counts_123 ?_
                  refine g_f hw hf (lt_iM (by decide)) (c_iM E _ (by decide)) rfl inlX1 4 (by decide) rfl q368 (congrArg (fun z => some (Value.long z)) (show _ = ot2 (μ.1 0) t2 cu.toInt64 from (by first | (simp [pM, pJ, upM, upJ, sF, tN, tD, tR, tk_M, tk_K, tk_0, tk_1, tk_2, tk_3, tk_4, tk_5, tk_6, tk_7, tk_8, tk_9, tk_10, tk_o, ms_0_0, ms_0_1, ms_0_2, ms_0_3, ms_0_4, ms_0_5, ms_0_6, ms_0_7, ms_0_8, ms_0_9, ms_0_10, ms_1_0, ms_1_1, ms_1_2, ms_1_3, ms_1_4, ms_1_5, ms_1_6, ms_1_7, ms_1_8, ms_1_9, ms_1_10, ms_w, ms_r, ms_d, ms_M, ms_6, ms_K]; done) | (simp (disch := (first | omega | (simp only [tN, tD, tR, sF]; omega))) only [pM, pJ, upM_s, upM_k, upM_c, upJ_s, upJ_k, upJ_c, tk_M, tk_K, tk_0, tk_1, tk_2, tk_3, tk_4, tk_5, tk_6, tk_7, tk_8, tk_9, tk_10, tk_o, ms_0_0, ms_0_1, ms_0_2, ms_0_3, ms_0_4, ms_0_5, ms_0_6, ms_0_7, ms_0_8, ms_0_9, ms_0_10, ms_1_0, ms_1_1, ms_1_2, ms_1_3, ms_1_4, ms_1_5, ms_1_6, ms_1_7, ms_1_8, ms_1_9, ms_1_10, ms_w, ms_r, ms_d, ms_M, ms_6, ms_K])))) dX7_counts_126 ?_
                  refine lv_lstore (lv' := [(8, .long (ot2 (μ.1 0) t2 cu.toInt64)), (6, .long (on2 (μ.1 0) t2 cu.toInt64)), (5, .ref (E.1 (iN 0 t2))), (0, .ref (E.1 (231))), (1, .int (a)), (2, .int (cu)), (3, .int (lp)), (4, .int (wy))]) hx hb dX7_counts_129 hl (by decide) rfl (fun ls hl => ?_)
                  refine lv_iload hx hb dX7_counts_131 (lv_at hl 7 rfl) ?_
                  refine lv_iconst (v := 2) hx hb dX7_counts_133 (by decide) ?_
                  refine lv_icmp_ne (tgt := 148) hx hb dX7_counts_134 (by decide) (fun c22 => ?_) (fun c22 => ?_)
                  · refine lv_iload hx hb dX7_counts_148 (lv_at hl 7 rfl) ?_
                    refine lv_if_ne (tgt := 158) hx hb dX7_counts_150 (by decide) (fun c23 => ?_) (fun c23 => ?_)
                    · refine lv_lload hx hb dX7_counts_158 (lv_at hl 0 rfl) ?_
                      refine lv_l2i hx hb dX7_counts_160 rfl ?_
                      exact e_i hf hr hlocks hw rfl ((oc_some o1).trans ((if_pos c4).trans ((if_pos c5).trans ((if_pos c6).trans ((if_pos c7).trans ((if_pos c19).trans ((if_neg c20).trans ((if_neg c21).trans ((if_neg c22).trans ((if_neg c23).trans rfl)))))))))) dX7_counts_161
                    · refine lv_lload hx hb dX7_counts_153 (lv_at hl 1 rfl) ?_
                      refine lv_goto (tgt := 160) hx hb dX7_counts_155 (by decide) ?_
                      refine lv_l2i hx hb dX7_counts_160 rfl ?_
                      exact e_i hf hr hlocks hw rfl ((oc_some o1).trans ((if_pos c4).trans ((if_pos c5).trans ((if_pos c6).trans ((if_pos c7).trans ((if_pos c19).trans ((if_neg c20).trans ((if_neg c21).trans ((if_neg c22).trans ((if_pos c23).trans rfl)))))))))) dX7_counts_161
                  · refine lv_lload hx hb dX7_counts_137 (lv_at hl 1 rfl) ?_
                    refine lv_lload hx hb dX7_counts_139 (lv_at hl 0 rfl) ?_
                    refine lv_lsub hx hb dX7_counts_141 ?_
                    refine lv_ldc2 hx hb hf.2.2.2.1 (hf.2.2.2.2 _ q357) dX7_counts_142 ?_
                    refine lv_ldiv hx hb dX7_counts_145 (by decide) ?_
                    refine lv_l2i hx hb dX7_counts_146 rfl ?_
                    exact e_i hf hr hlocks hw rfl ((oc_some o1).trans ((if_pos c4).trans ((if_pos c5).trans ((if_pos c6).trans ((if_pos c7).trans ((if_pos c19).trans ((if_neg c20).trans ((if_neg c21).trans ((if_pos c22).trans rfl))))))))) dX7_counts_147
                · refine lv_aload_n hx hb dX7_counts_112 rfl (lv_at hl 2 rfl) ?_
                  refine g_f hw hf (by decide) (c_O E _) rfl inlX7 4 (by decide) rfl q36 rfl dX7_counts_113 ?_
                  refine g_f hw hf (lt_iM (by decide)) (c_iM E _ (by decide)) rfl inlX1 2 (by decide) rfl q367 (congrArg (fun z => some (Value.long z)) (show _ = oth (μ.1 0) t2 cu.toInt64 from (by first | (simp [pM, pJ, upM, upJ, sF, tN, tD, tR, tk_M, tk_K, tk_0, tk_1, tk_2, tk_3, tk_4, tk_5, tk_6, tk_7, tk_8, tk_9, tk_10, tk_o, ms_0_0, ms_0_1, ms_0_2, ms_0_3, ms_0_4, ms_0_5, ms_0_6, ms_0_7, ms_0_8, ms_0_9, ms_0_10, ms_1_0, ms_1_1, ms_1_2, ms_1_3, ms_1_4, ms_1_5, ms_1_6, ms_1_7, ms_1_8, ms_1_9, ms_1_10, ms_w, ms_r, ms_d, ms_M, ms_6, ms_K]; done) | (simp (disch := (first | omega | (simp only [tN, tD, tR, sF]; omega))) only [pM, pJ, upM_s, upM_k, upM_c, upJ_s, upJ_k, upJ_c, tk_M, tk_K, tk_0, tk_1, tk_2, tk_3, tk_4, tk_5, tk_6, tk_7, tk_8, tk_9, tk_10, tk_o, ms_0_0, ms_0_1, ms_0_2, ms_0_3, ms_0_4, ms_0_5, ms_0_6, ms_0_7, ms_0_8, ms_0_9, ms_0_10, ms_1_0, ms_1_1, ms_1_2, ms_1_3, ms_1_4, ms_1_5, ms_1_6, ms_1_7, ms_1_8, ms_1_9, ms_1_10, ms_w, ms_r, ms_d, ms_M, ms_6, ms_K])))) dX7_counts_116 ?_
                  refine lv_goto (tgt := 129) hx hb dX7_counts_119 (by decide) ?_
                  refine lv_lstore (lv' := [(8, .long (oth (μ.1 0) t2 cu.toInt64)), (6, .long (on2 (μ.1 0) t2 cu.toInt64)), (5, .ref (E.1 (iN 0 t2))), (0, .ref (E.1 (231))), (1, .int (a)), (2, .int (cu)), (3, .int (lp)), (4, .int (wy))]) hx hb dX7_counts_129 hl (by decide) rfl (fun ls hl => ?_)
                  refine lv_iload hx hb dX7_counts_131 (lv_at hl 7 rfl) ?_
                  refine lv_iconst (v := 2) hx hb dX7_counts_133 (by decide) ?_
                  refine lv_icmp_ne (tgt := 148) hx hb dX7_counts_134 (by decide) (fun c24 => ?_) (fun c24 => ?_)
                  · refine lv_iload hx hb dX7_counts_148 (lv_at hl 7 rfl) ?_
                    refine lv_if_ne (tgt := 158) hx hb dX7_counts_150 (by decide) (fun c25 => ?_) (fun c25 => ?_)
                    · refine lv_lload hx hb dX7_counts_158 (lv_at hl 0 rfl) ?_
                      refine lv_l2i hx hb dX7_counts_160 rfl ?_
                      exact e_i hf hr hlocks hw rfl ((oc_some o1).trans ((if_pos c4).trans ((if_pos c5).trans ((if_pos c6).trans ((if_pos c7).trans ((if_pos c19).trans ((if_neg c20).trans ((if_pos c21).trans ((if_neg c24).trans ((if_neg c25).trans rfl)))))))))) dX7_counts_161
                    · refine lv_lload hx hb dX7_counts_153 (lv_at hl 1 rfl) ?_
                      refine lv_goto (tgt := 160) hx hb dX7_counts_155 (by decide) ?_
                      refine lv_l2i hx hb dX7_counts_160 rfl ?_
                      exact e_i hf hr hlocks hw rfl ((oc_some o1).trans ((if_pos c4).trans ((if_pos c5).trans ((if_pos c6).trans ((if_pos c7).trans ((if_pos c19).trans ((if_neg c20).trans ((if_pos c21).trans ((if_neg c24).trans ((if_pos c25).trans rfl)))))))))) dX7_counts_161
                  · refine lv_lload hx hb dX7_counts_137 (lv_at hl 1 rfl) ?_
                    refine lv_lload hx hb dX7_counts_139 (lv_at hl 0 rfl) ?_
                    refine lv_lsub hx hb dX7_counts_141 ?_
                    refine lv_ldc2 hx hb hf.2.2.2.1 (hf.2.2.2.2 _ q357) dX7_counts_142 ?_
                    refine lv_ldiv hx hb dX7_counts_145 (by decide) ?_
                    refine lv_l2i hx hb dX7_counts_146 rfl ?_
                    exact e_i hf hr hlocks hw rfl ((oc_some o1).trans ((if_pos c4).trans ((if_pos c5).trans ((if_pos c6).trans ((if_pos c7).trans ((if_pos c19).trans ((if_neg c20).trans ((if_pos c21).trans ((if_pos c24).trans rfl))))))))) dX7_counts_147
              · refine lv_aload_n hx hb dX7_counts_89 rfl (lv_at hl 1 rfl) ?_
                refine g_f hw hf (by decide) (c_O E _) rfl inlX7 4 (by decide) rfl q36 rfl dX7_counts_90 ?_
                refine g_f hw hf (lt_iM (by decide)) (c_iM E _ (by decide)) rfl inlX1 1 (by decide) rfl q365 (congrArg (fun z => some (Value.long z)) (show _ = one (μ.1 0) t2 cu.toInt64 from (by first | (simp [pM, pJ, upM, upJ, sF, tN, tD, tR, tk_M, tk_K, tk_0, tk_1, tk_2, tk_3, tk_4, tk_5, tk_6, tk_7, tk_8, tk_9, tk_10, tk_o, ms_0_0, ms_0_1, ms_0_2, ms_0_3, ms_0_4, ms_0_5, ms_0_6, ms_0_7, ms_0_8, ms_0_9, ms_0_10, ms_1_0, ms_1_1, ms_1_2, ms_1_3, ms_1_4, ms_1_5, ms_1_6, ms_1_7, ms_1_8, ms_1_9, ms_1_10, ms_w, ms_r, ms_d, ms_M, ms_6, ms_K]; done) | (simp (disch := (first | omega | (simp only [tN, tD, tR, sF]; omega))) only [pM, pJ, upM_s, upM_k, upM_c, upJ_s, upJ_k, upJ_c, tk_M, tk_K, tk_0, tk_1, tk_2, tk_3, tk_4, tk_5, tk_6, tk_7, tk_8, tk_9, tk_10, tk_o, ms_0_0, ms_0_1, ms_0_2, ms_0_3, ms_0_4, ms_0_5, ms_0_6, ms_0_7, ms_0_8, ms_0_9, ms_0_10, ms_1_0, ms_1_1, ms_1_2, ms_1_3, ms_1_4, ms_1_5, ms_1_6, ms_1_7, ms_1_8, ms_1_9, ms_1_10, ms_w, ms_r, ms_d, ms_M, ms_6, ms_K])))) dX7_counts_93 ?_
                refine lv_goto (tgt := 106) hx hb dX7_counts_96 (by decide) ?_
                refine lv_lstore (lv' := [(6, .long (one (μ.1 0) t2 cu.toInt64)), (5, .ref (E.1 (iN 0 t2))), (0, .ref (E.1 (231))), (1, .int (a)), (2, .int (cu)), (3, .int (lp)), (4, .int (wy))]) hx hb dX7_counts_106 hl (by decide) rfl (fun ls hl => ?_)
                refine lv_iload_n hx hb dX7_counts_108 rfl (lv_at hl 5 rfl) ?_
                refine lv_if_ne (tgt := 122) hx hb dX7_counts_109 (by decide) (fun c26 => ?_) (fun c26 => ?_)
                · refine lv_aload_n hx hb dX7_counts_122 rfl (lv_at hl 2 rfl) ?_
                  refine g_f hw hf (by decide) (c_O E _) rfl inlX7 4 (by decide) rfl q36 rfl dX7_counts_123 ?_
                  refine g_f hw hf (lt_iM (by decide)) (c_iM E _ (by decide)) rfl inlX1 4 (by decide) rfl q368 (congrArg (fun z => some (Value.long z)) (show _ = ot2 (μ.1 0) t2 cu.toInt64 from (by first | (simp [pM, pJ, upM, upJ, sF, tN, tD, tR, tk_M, tk_K, tk_0, tk_1, tk_2, tk_3, tk_4, tk_5, tk_6, tk_7, tk_8, tk_9, tk_10, tk_o, ms_0_0, ms_0_1, ms_0_2, ms_0_3, ms_0_4, ms_0_5, ms_0_6, ms_0_7, ms_0_8, ms_0_9, ms_0_10, ms_1_0, ms_1_1, ms_1_2, ms_1_3, ms_1_4, ms_1_5, ms_1_6, ms_1_7, ms_1_8, ms_1_9, ms_1_10, ms_w, ms_r, ms_d, ms_M, ms_6, ms_K]; done) | (simp (disch := (first | omega | (simp only [tN, tD, tR, sF]; omega))) only [pM, pJ, upM_s, upM_k, upM_c, upJ_s, upJ_k, upJ_c, tk_M, tk_K, tk_0, tk_1, tk_2, tk_3, tk_4, tk_5, tk_6, tk_7, tk_8, tk_9, tk_10, tk_o, ms_0_0, ms_0_1, ms_0_2, ms_0_3, ms_0_4, ms_0_5, ms_0_6, ms_0_7, ms_0_8, ms_0_9, ms_0_10, ms_1_0, ms_1_1, ms_1_2, ms_1_3, ms_1_4, ms_1_5, ms_1_6, ms_1_7, ms_1_8, ms_1_9, ms_1_10, ms_w, ms_r, ms_d, ms_M, ms_6, ms_K])))) dX7_counts_126 ?_
                  refine lv_lstore (lv' := [(8, .long (ot2 (μ.1 0) t2 cu.toInt64)), (6, .long (one (μ.1 0) t2 cu.toInt64)), (5, .ref (E.1 (iN 0 t2))), (0, .ref (E.1 (231))), (1, .int (a)), (2, .int (cu)), (3, .int (lp)), (4, .int (wy))]) hx hb dX7_counts_129 hl (by decide) rfl (fun ls hl => ?_)
                  refine lv_iload hx hb dX7_counts_131 (lv_at hl 7 rfl) ?_
                  refine lv_iconst (v := 2) hx hb dX7_counts_133 (by decide) ?_
                  refine lv_icmp_ne (tgt := 148) hx hb dX7_counts_134 (by decide) (fun c27 => ?_) (fun c27 => ?_)
                  · refine lv_iload hx hb dX7_counts_148 (lv_at hl 7 rfl) ?_
                    refine lv_if_ne (tgt := 158) hx hb dX7_counts_150 (by decide) (fun c28 => ?_) (fun c28 => ?_)
                    · refine lv_lload hx hb dX7_counts_158 (lv_at hl 0 rfl) ?_
                      refine lv_l2i hx hb dX7_counts_160 rfl ?_
                      exact e_i hf hr hlocks hw rfl ((oc_some o1).trans ((if_pos c4).trans ((if_pos c5).trans ((if_pos c6).trans ((if_pos c7).trans ((if_pos c19).trans ((if_pos c20).trans ((if_neg c26).trans ((if_neg c27).trans ((if_neg c28).trans rfl)))))))))) dX7_counts_161
                    · refine lv_lload hx hb dX7_counts_153 (lv_at hl 1 rfl) ?_
                      refine lv_goto (tgt := 160) hx hb dX7_counts_155 (by decide) ?_
                      refine lv_l2i hx hb dX7_counts_160 rfl ?_
                      exact e_i hf hr hlocks hw rfl ((oc_some o1).trans ((if_pos c4).trans ((if_pos c5).trans ((if_pos c6).trans ((if_pos c7).trans ((if_pos c19).trans ((if_pos c20).trans ((if_neg c26).trans ((if_neg c27).trans ((if_pos c28).trans rfl)))))))))) dX7_counts_161
                  · refine lv_lload hx hb dX7_counts_137 (lv_at hl 1 rfl) ?_
                    refine lv_lload hx hb dX7_counts_139 (lv_at hl 0 rfl) ?_
                    refine lv_lsub hx hb dX7_counts_141 ?_
                    refine lv_ldc2 hx hb hf.2.2.2.1 (hf.2.2.2.2 _ q357) dX7_counts_142 ?_
                    refine lv_ldiv hx hb dX7_counts_145 (by decide) ?_
                    refine lv_l2i hx hb dX7_counts_146 rfl ?_
                    exact e_i hf hr hlocks hw rfl ((oc_some o1).trans ((if_pos c4).trans ((if_pos c5).trans ((if_pos c6).trans ((if_pos c7).trans ((if_pos c19).trans ((if_pos c20).trans ((if_neg c26).trans ((if_pos c27).trans rfl))))))))) dX7_counts_147
                · refine lv_aload_n hx hb dX7_counts_112 rfl (lv_at hl 2 rfl) ?_
                  refine g_f hw hf (by decide) (c_O E _) rfl inlX7 4 (by decide) rfl q36 rfl dX7_counts_113 ?_
                  refine g_f hw hf (lt_iM (by decide)) (c_iM E _ (by decide)) rfl inlX1 2 (by decide) rfl q367 (congrArg (fun z => some (Value.long z)) (show _ = oth (μ.1 0) t2 cu.toInt64 from (by first | (simp [pM, pJ, upM, upJ, sF, tN, tD, tR, tk_M, tk_K, tk_0, tk_1, tk_2, tk_3, tk_4, tk_5, tk_6, tk_7, tk_8, tk_9, tk_10, tk_o, ms_0_0, ms_0_1, ms_0_2, ms_0_3, ms_0_4, ms_0_5, ms_0_6, ms_0_7, ms_0_8, ms_0_9, ms_0_10, ms_1_0, ms_1_1, ms_1_2, ms_1_3, ms_1_4, ms_1_5, ms_1_6, ms_1_7, ms_1_8, ms_1_9, ms_1_10, ms_w, ms_r, ms_d, ms_M, ms_6, ms_K]; done) | (simp (disch := (first | omega | (simp only [tN, tD, tR, sF]; omega))) only [pM, pJ, upM_s, upM_k, upM_c, upJ_s, upJ_k, upJ_c, tk_M, tk_K, tk_0, tk_1, tk_2, tk_3, tk_4, tk_5, tk_6, tk_7, tk_8, tk_9, tk_10, tk_o, ms_0_0, ms_0_1, ms_0_2, ms_0_3, ms_0_4, ms_0_5, ms_0_6, ms_0_7, ms_0_8, ms_0_9, ms_0_10, ms_1_0, ms_1_1, ms_1_2, ms_1_3, ms_1_4, ms_1_5, ms_1_6, ms_1_7, ms_1_8, ms_1_9, ms_1_10, ms_w, ms_r, ms_d, ms_M, ms_6, ms_K])))) dX7_counts_116 ?_
                  refine lv_goto (tgt := 129) hx hb dX7_counts_119 (by decide) ?_
                  refine lv_lstore (lv' := [(8, .long (oth (μ.1 0) t2 cu.toInt64)), (6, .long (one (μ.1 0) t2 cu.toInt64)), (5, .ref (E.1 (iN 0 t2))), (0, .ref (E.1 (231))), (1, .int (a)), (2, .int (cu)), (3, .int (lp)), (4, .int (wy))]) hx hb dX7_counts_129 hl (by decide) rfl (fun ls hl => ?_)
                  refine lv_iload hx hb dX7_counts_131 (lv_at hl 7 rfl) ?_
                  refine lv_iconst (v := 2) hx hb dX7_counts_133 (by decide) ?_
                  refine lv_icmp_ne (tgt := 148) hx hb dX7_counts_134 (by decide) (fun c29 => ?_) (fun c29 => ?_)
                  · refine lv_iload hx hb dX7_counts_148 (lv_at hl 7 rfl) ?_
                    refine lv_if_ne (tgt := 158) hx hb dX7_counts_150 (by decide) (fun c30 => ?_) (fun c30 => ?_)
                    · refine lv_lload hx hb dX7_counts_158 (lv_at hl 0 rfl) ?_
                      refine lv_l2i hx hb dX7_counts_160 rfl ?_
                      exact e_i hf hr hlocks hw rfl ((oc_some o1).trans ((if_pos c4).trans ((if_pos c5).trans ((if_pos c6).trans ((if_pos c7).trans ((if_pos c19).trans ((if_pos c20).trans ((if_pos c26).trans ((if_neg c29).trans ((if_neg c30).trans rfl)))))))))) dX7_counts_161
                    · refine lv_lload hx hb dX7_counts_153 (lv_at hl 1 rfl) ?_
                      refine lv_goto (tgt := 160) hx hb dX7_counts_155 (by decide) ?_
                      refine lv_l2i hx hb dX7_counts_160 rfl ?_
                      exact e_i hf hr hlocks hw rfl ((oc_some o1).trans ((if_pos c4).trans ((if_pos c5).trans ((if_pos c6).trans ((if_pos c7).trans ((if_pos c19).trans ((if_pos c20).trans ((if_pos c26).trans ((if_neg c29).trans ((if_pos c30).trans rfl)))))))))) dX7_counts_161
                  · refine lv_lload hx hb dX7_counts_137 (lv_at hl 1 rfl) ?_
                    refine lv_lload hx hb dX7_counts_139 (lv_at hl 0 rfl) ?_
                    refine lv_lsub hx hb dX7_counts_141 ?_
                    refine lv_ldc2 hx hb hf.2.2.2.1 (hf.2.2.2.2 _ q357) dX7_counts_142 ?_
                    refine lv_ldiv hx hb dX7_counts_145 (by decide) ?_
                    refine lv_l2i hx hb dX7_counts_146 rfl ?_
                    exact e_i hf hr hlocks hw rfl ((oc_some o1).trans ((if_pos c4).trans ((if_pos c5).trans ((if_pos c6).trans ((if_pos c7).trans ((if_pos c19).trans ((if_pos c20).trans ((if_pos c26).trans ((if_pos c29).trans rfl))))))))) dX7_counts_147
            · replace c19 := (bz_0 _).mp c19
              refine lv_ldc hx hb hf.2.2.2.1 (hf.2.2.2.2 _ q106) dX7_counts_68 ?_
              exact e_i hf hr hlocks hw rfl ((oc_some o1).trans ((if_pos c4).trans ((if_pos c5).trans ((if_pos c6).trans ((if_pos c7).trans ((if_neg c19).trans rfl)))))) dX7_counts_70
        · replace c6 := (bz_0 _).mp c6
          refine lv_ldc hx hb hf.2.2.2.1 (hf.2.2.2.2 _ q113) dX7_counts_52 ?_
          exact e_i hf hr hlocks hw rfl ((oc_some o1).trans ((if_pos c4).trans ((if_pos c5).trans ((if_neg c6).trans rfl)))) dX7_counts_54
def sp_X7_ohms (μ : Mu)  (a : Int32) (b : Int32) : Int32 × Mu :=
  oc (sp_X4_sensorAt (μ.1 0)  a) (
    ((-2000000001), μ)) (fun t2 =>
    if (0 : Int64) ≤ (b.toInt64) ∧ (b.toInt64) ≤ (5 : Int64) then
      if (b : Int32) = 0 then
        ((htq (μ.1 0) t2 (cur1 (μ.1 0)).toInt64).toInt32, msr μ 0 t2)
      else
        if (b : Int32) = 1 then
          ((v_X1_ohmsBy   (uni (μ.1 0)) (rfr (μ.1 0)) (one (μ.1 0) t2 (cur1 (μ.1 0)).toInt64)).toInt32, msr μ 0 t2)
        else
          if (b : Int32) = 2 then
            ((lpo (μ.1 0) t2 (cur1 (μ.1 0)).toInt64).toInt32, msr μ 0 t2)
          else
            if (b : Int32) = 3 then
              ((cps (μ.1 0) t2 (cur1 (μ.1 0)).toInt64).toInt32, msr μ 0 t2)
            else
              if (b : Int32) = 4 then
                ((cps (μ.1 0) t2 (cur2 (μ.1 0)).toInt64).toInt32, msr μ 0 t2)
              else
                ((wop (μ.1 0) t2).toInt32, msr μ 0 t2)
    else
      ((-2000000001), μ))
set_option maxHeartbeats 4000000 in
set_option maxRecDepth 100000 in
theorem k_X7_ohms (l : Launch) (E : En) (μ : Mu)  (a : Int32) (b : Int32)  : MtI l yX7_ohms cX7_ohms 4 .int ({ frames := 4, cells := 0, slots := 0, locals := 111 }) [.ref (E.1 (231)), .int (a), .int (b)] E μ (sp_X7_ohms μ a b) := by
  refine mt_of (by decide +kernel) (Nat.le_of_ble_eq_true rfl) ?_
  intro p e s m args below meth c ls hf hr hlocks hl hw
  have hx := hf.1
  have hb := hf.2.1
  have hl : lv_has ls 4 [(0, .ref (E.1 (231))), (1, .int (a)), (2, .int (b))] := hl
  refine lv_aload_n hx hb dX7_ohms_0 rfl (lv_at hl 0 rfl) ?_
  refine g_f hw hf (by decide) (c_O E _) rfl inlX7 0 (by decide) rfl q23 rfl dX7_ohms_1 ?_
  refine lv_iload_n hx hb dX7_ohms_4 rfl (lv_at hl 1 rfl) ?_
  refine c_q hw (run_V (As := [.int (a)]) (rest := []) (np := 1) hf hw (k_X4_sensorAt l E _ (by decide) a  ) ⟨gl_V q220 q221 q222 q22 q223, by decide +kernel⟩ ⟨rfl, rfl, Nat.le_of_ble_eq_true rfl, Nat.le_of_ble_eq_true rfl⟩ (lt_iS (by decide)) (c_iS E _ (by decide)) rfl rfl hl.1 rfl (Nat.le_of_ble_eq_true rfl) dX7_ohms_5 ⟨Nat.zero_le _, Nat.zero_le _⟩) (fun H locs hw => ?_)
  rcases o1 : sp_X4_sensorAt (μ.1 0)  a with _ | t2
  · refine W.eq (g2 := F0 m 8 ls [.null]) rfl ?_
    refine lv_astore_nN (lv' := [(3, .null), (0, .ref (E.1 (231))), (1, .int (a)), (2, .int (b))]) hx hb dX7_ohms_8 rfl hl (by decide) rfl (fun ls hl => ?_)
    refine lv_aload_nN hx hb dX7_ohms_9 rfl (lv_at hl 0 rfl) ?_
    refine lv_ifnullN (tgt := 25) hx hb dX7_ohms_10 (by decide) ?_
    refine lv_ldc hx hb hf.2.2.2.1 (hf.2.2.2.2 _ q113) dX7_ohms_25 ?_
    exact e_i hf hr hlocks hw rfl ((oc_none o1).trans rfl) dX7_ohms_27
  · have ht3 : t2 < 6 := (b_X4_sensorAt o1)
    refine W.eq (g2 := F0 m 8 ls [.ref (E.1 (iN 0 t2))]) rfl ?_
    refine lv_astore_n (lv' := [(3, .ref (E.1 (iN 0 t2))), (0, .ref (E.1 (231))), (1, .int (a)), (2, .int (b))]) hx hb dX7_ohms_8 rfl hl (by decide) rfl (fun ls hl => ?_)
    refine lv_aload_n hx hb dX7_ohms_9 rfl (lv_at hl 0 rfl) ?_
    refine lv_ifnull hx hb dX7_ohms_10 ?_
    refine lv_iload_n hx hb dX7_ohms_13 rfl (lv_at hl 3 rfl) ?_
    refine lv_i2l hx hb dX7_ohms_14 rfl ?_
    refine lv_lconst (v := 0) hx hb dX7_ohms_15 (by decide) ?_
    refine lv_ldc2 hx hb hf.2.2.2.1 (hf.2.2.2.2 _ q204) dX7_ohms_16 ?_
    refine c_iR hw (run_S (As := [.long (b.toInt64), .long (0), .long (5)]) (rest := []) (np := 3) hf hw (kn_X7_isWithin l E _  (b.toInt64) (0 : Int64) (5 : Int64)  ) ⟨gl_S q114 q115 q2 q116, by decide +kernel⟩ ⟨rfl, rfl, Nat.le_of_ble_eq_true rfl, Nat.le_of_ble_eq_true rfl⟩ rfl hl.1 rfl (Nat.le_of_ble_eq_true rfl) dX7_ohms_19 ⟨Nat.zero_le _, Nat.zero_le _⟩) (fun H locs hw => ?_)
    refine lv_if_ne (tgt := 28) hx hb dX7_ohms_22 (by decide) (fun c4 => ?_) (fun c4 => ?_)
    · replace c4 := (bz_n0 _).mp c4
      refine lv_aload_n hx hb dX7_ohms_28 rfl (lv_at hl 1 rfl) ?_
      refine g_f hw hf (by decide) (c_O E _) rfl inlX7 3 (by decide) rfl q32 rfl dX7_ohms_29 ?_
      refine lv_aload_n hx hb dX7_ohms_32 rfl (lv_at hl 1 rfl) ?_
      refine g_f hw hf (by decide) (c_O E _) rfl inlX7 0 (by decide) rfl q23 rfl dX7_ohms_33 ?_
      refine lv_aload_n hx hb dX7_ohms_36 rfl (lv_at hl 0 rfl) ?_
      refine c_v hw (run_V (As := [.ref (E.1 (iS 0)), .ref (E.1 (iN 0 t2))]) (rest := []) (np := 2) hf hw (kn_X2_measure l E _ (by decide) ht3  (by decide) ) ⟨gl_V q250 q251 q252 q31 q253, by decide +kernel⟩ ⟨rfl, rfl, Nat.le_of_ble_eq_true rfl, Nat.le_of_ble_eq_true rfl⟩ (by decide) (c_Me E _) rfl rfl hl.1 rfl (Nat.le_of_ble_eq_true rfl) dX7_ohms_37 ⟨Nat.zero_le _, Nat.zero_le _⟩) (fun H locs hw => ?_)
      refine lv_iload_n hx hb dX7_ohms_40 rfl (lv_at hl 3 rfl) ?_
      by_cases c5 : b = 0
      · refine lv_tableIn (off := 35) (tgt := 76) hx hb dX7_ohms_41 (by rw [c5]; decide) (by rw [c5]; decide) (by rw [c5]; rfl) (by decide) ?_
        refine lv_aload_n hx hb dX7_ohms_76 rfl (lv_at hl 1 rfl) ?_
        refine g_f hw hf (by decide) (c_O E _) rfl inlX7 3 (by decide) rfl q32 rfl dX7_ohms_77 ?_
        refine g_f hw hf (by decide) (c_Me E _) rfl inlX2 0 (by decide) rfl q375 rfl dX7_ohms_80 ?_
        refine g_f hw hf (lt_iM (by decide)) (c_iM E _ (by decide)) rfl inlX1 0 (by decide) rfl q376 (congrArg (fun z => some (Value.long z)) (show _ = htq (μ.1 0) t2 (cur1 (μ.1 0)).toInt64 from (by first | (simp [pM, pJ, upM, upJ, sF, tN, tD, tR, tk_M, tk_K, tk_0, tk_1, tk_2, tk_3, tk_4, tk_5, tk_6, tk_7, tk_8, tk_9, tk_10, tk_o, ms_0_0, ms_0_1, ms_0_2, ms_0_3, ms_0_4, ms_0_5, ms_0_6, ms_0_7, ms_0_8, ms_0_9, ms_0_10, ms_1_0, ms_1_1, ms_1_2, ms_1_3, ms_1_4, ms_1_5, ms_1_6, ms_1_7, ms_1_8, ms_1_9, ms_1_10, ms_w, ms_r, ms_d, ms_M, ms_6, ms_K]; done) | (simp (disch := (first | omega | (simp only [tN, tD, tR, sF]; omega))) only [pM, pJ, upM_s, upM_k, upM_c, upJ_s, upJ_k, upJ_c, tk_M, tk_K, tk_0, tk_1, tk_2, tk_3, tk_4, tk_5, tk_6, tk_7, tk_8, tk_9, tk_10, tk_o, ms_0_0, ms_0_1, ms_0_2, ms_0_3, ms_0_4, ms_0_5, ms_0_6, ms_0_7, ms_0_8, ms_0_9, ms_0_10, ms_1_0, ms_1_1, ms_1_2, ms_1_3, ms_1_4, ms_1_5, ms_1_6, ms_1_7, ms_1_8, ms_1_9, ms_1_10, ms_w, ms_r, ms_d, ms_M, ms_6, ms_K])))) dX7_ohms_83 ?_
        refine lv_l2i hx hb dX7_ohms_86 rfl ?_
        exact e_i hf hr hlocks hw rfl ((oc_some o1).trans ((if_pos c4).trans ((if_pos c5).trans rfl))) dX7_ohms_87
      · skip
        by_cases c6 : b = 1
        · refine lv_tableIn (off := 47) (tgt := 88) hx hb dX7_ohms_41 (by rw [c6]; decide) (by rw [c6]; decide) (by rw [c6]; rfl) (by decide) ?_
          refine lv_aload_n hx hb dX7_ohms_88 rfl (lv_at hl 1 rfl) ?_
          refine g_f hw hf (by decide) (c_O E _) rfl inlX7 3 (by decide) rfl q32 rfl dX7_ohms_89 ?_
          refine g_f hw hf (by decide) (c_Me E _) rfl inlX2 0 (by decide) rfl q375 rfl dX7_ohms_92 ?_
          refine lv_aload_n hx hb dX7_ohms_95 rfl (lv_at hl 1 rfl) ?_
          refine g_f hw hf (by decide) (c_O E _) rfl inlX7 3 (by decide) rfl q32 rfl dX7_ohms_96 ?_
          refine g_f hw hf (by decide) (c_Me E _) rfl inlX2 0 (by decide) rfl q375 rfl dX7_ohms_99 ?_
          refine g_f hw hf (lt_iM (by decide)) (c_iM E _ (by decide)) rfl inlX1 1 (by decide) rfl q365 (congrArg (fun z => some (Value.long z)) (show _ = one (μ.1 0) t2 (cur1 (μ.1 0)).toInt64 from (by first | (simp [pM, pJ, upM, upJ, sF, tN, tD, tR, tk_M, tk_K, tk_0, tk_1, tk_2, tk_3, tk_4, tk_5, tk_6, tk_7, tk_8, tk_9, tk_10, tk_o, ms_0_0, ms_0_1, ms_0_2, ms_0_3, ms_0_4, ms_0_5, ms_0_6, ms_0_7, ms_0_8, ms_0_9, ms_0_10, ms_1_0, ms_1_1, ms_1_2, ms_1_3, ms_1_4, ms_1_5, ms_1_6, ms_1_7, ms_1_8, ms_1_9, ms_1_10, ms_w, ms_r, ms_d, ms_M, ms_6, ms_K]; done) | (simp (disch := (first | omega | (simp only [tN, tD, tR, sF]; omega))) only [pM, pJ, upM_s, upM_k, upM_c, upJ_s, upJ_k, upJ_c, tk_M, tk_K, tk_0, tk_1, tk_2, tk_3, tk_4, tk_5, tk_6, tk_7, tk_8, tk_9, tk_10, tk_o, ms_0_0, ms_0_1, ms_0_2, ms_0_3, ms_0_4, ms_0_5, ms_0_6, ms_0_7, ms_0_8, ms_0_9, ms_0_10, ms_1_0, ms_1_1, ms_1_2, ms_1_3, ms_1_4, ms_1_5, ms_1_6, ms_1_7, ms_1_8, ms_1_9, ms_1_10, ms_w, ms_r, ms_d, ms_M, ms_6, ms_K])))) dX7_ohms_102 ?_
          refine c_lR hw (run_V (As := [.long (one (μ.1 0) t2 (cur1 (μ.1 0)).toInt64)]) (rest := []) (np := 1) hf hw (kn_X1_ohmsBy l E _ (by decide) (one (μ.1 0) t2 (cur1 (μ.1 0)).toInt64)  ) ⟨gl_V q381 q309 q310 q35 q311, by decide +kernel⟩ ⟨rfl, rfl, Nat.le_of_ble_eq_true rfl, Nat.le_of_ble_eq_true rfl⟩ (lt_iM (by decide)) (c_iM E _ (by decide)) rfl rfl hl.1 rfl (Nat.le_of_ble_eq_true rfl) dX7_ohms_105 ⟨Nat.zero_le _, Nat.zero_le _⟩) (fun H locs hw => ?_)
          refine fold_l (y := v_X1_ohmsBy   (uni (μ.1 0)) (rfr (μ.1 0)) (one (μ.1 0) t2 (cur1 (μ.1 0)).toInt64)) (by first | (simp [pM, pJ, upM, upJ, upM_r, tk_M, tk_K, tk_0, tk_1, tk_2, tk_3, tk_4, tk_5, tk_6, tk_7, tk_8, tk_9, tk_10, tk_o, ms_0_0, ms_0_1, ms_0_2, ms_0_3, ms_0_4, ms_0_5, ms_0_6, ms_0_7, ms_0_8, ms_0_9, ms_0_10, ms_1_0, ms_1_1, ms_1_2, ms_1_3, ms_1_4, ms_1_5, ms_1_6, ms_1_7, ms_1_8, ms_1_9, ms_1_10, ms_w, ms_r, ms_d, ms_M, ms_6, ms_K]; done) | (simp (disch := (first | omega | (simp only [tN, tD, tR, sF]; omega))) only [pM, pJ, upM_s, upM_k, upM_c, upJ_s, upJ_k, upJ_c, tk_M, tk_K, tk_0, tk_1, tk_2, tk_3, tk_4, tk_5, tk_6, tk_7, tk_8, tk_9, tk_10, tk_o, ms_0_0, ms_0_1, ms_0_2, ms_0_3, ms_0_4, ms_0_5, ms_0_6, ms_0_7, ms_0_8, ms_0_9, ms_0_10, ms_1_0, ms_1_1, ms_1_2, ms_1_3, ms_1_4, ms_1_5, ms_1_6, ms_1_7, ms_1_8, ms_1_9, ms_1_10, ms_w, ms_r, ms_d, ms_M, ms_6, ms_K]; done) | rfl) ?_
          refine lv_l2i hx hb dX7_ohms_108 rfl ?_
          exact e_i hf hr hlocks hw rfl ((oc_some o1).trans ((if_pos c4).trans ((if_neg c5).trans ((if_pos c6).trans rfl)))) dX7_ohms_109
        · skip
          by_cases c7 : b = 2
          · refine lv_tableIn (off := 69) (tgt := 110) hx hb dX7_ohms_41 (by rw [c7]; decide) (by rw [c7]; decide) (by rw [c7]; rfl) (by decide) ?_
            refine lv_aload_n hx hb dX7_ohms_110 rfl (lv_at hl 1 rfl) ?_
            refine g_f hw hf (by decide) (c_O E _) rfl inlX7 3 (by decide) rfl q32 rfl dX7_ohms_111 ?_
            refine g_f hw hf (by decide) (c_Me E _) rfl inlX2 0 (by decide) rfl q375 rfl dX7_ohms_114 ?_
            refine g_f hw hf (lt_iM (by decide)) (c_iM E _ (by decide)) rfl inlX1 5 (by decide) rfl q377 (congrArg (fun z => some (Value.long z)) (show _ = lpo (μ.1 0) t2 (cur1 (μ.1 0)).toInt64 from (by first | (simp [pM, pJ, upM, upJ, sF, tN, tD, tR, tk_M, tk_K, tk_0, tk_1, tk_2, tk_3, tk_4, tk_5, tk_6, tk_7, tk_8, tk_9, tk_10, tk_o, ms_0_0, ms_0_1, ms_0_2, ms_0_3, ms_0_4, ms_0_5, ms_0_6, ms_0_7, ms_0_8, ms_0_9, ms_0_10, ms_1_0, ms_1_1, ms_1_2, ms_1_3, ms_1_4, ms_1_5, ms_1_6, ms_1_7, ms_1_8, ms_1_9, ms_1_10, ms_w, ms_r, ms_d, ms_M, ms_6, ms_K]; done) | (simp (disch := (first | omega | (simp only [tN, tD, tR, sF]; omega))) only [pM, pJ, upM_s, upM_k, upM_c, upJ_s, upJ_k, upJ_c, tk_M, tk_K, tk_0, tk_1, tk_2, tk_3, tk_4, tk_5, tk_6, tk_7, tk_8, tk_9, tk_10, tk_o, ms_0_0, ms_0_1, ms_0_2, ms_0_3, ms_0_4, ms_0_5, ms_0_6, ms_0_7, ms_0_8, ms_0_9, ms_0_10, ms_1_0, ms_1_1, ms_1_2, ms_1_3, ms_1_4, ms_1_5, ms_1_6, ms_1_7, ms_1_8, ms_1_9, ms_1_10, ms_w, ms_r, ms_d, ms_M, ms_6, ms_K])))) dX7_ohms_117 ?_
            refine lv_l2i hx hb dX7_ohms_120 rfl ?_
            exact e_i hf hr hlocks hw rfl ((oc_some o1).trans ((if_pos c4).trans ((if_neg c5).trans ((if_neg c6).trans ((if_pos c7).trans rfl))))) dX7_ohms_121
          · skip
            by_cases c8 : b = 3
            · refine lv_tableIn (off := 81) (tgt := 122) hx hb dX7_ohms_41 (by rw [c8]; decide) (by rw [c8]; decide) (by rw [c8]; rfl) (by decide) ?_
              refine lv_aload_n hx hb dX7_ohms_122 rfl (lv_at hl 1 rfl) ?_
              refine g_f hw hf (by decide) (c_O E _) rfl inlX7 3 (by decide) rfl q32 rfl dX7_ohms_123 ?_
              refine g_f hw hf (by decide) (c_Me E _) rfl inlX2 0 (by decide) rfl q375 rfl dX7_ohms_126 ?_
              refine g_f hw hf (lt_iM (by decide)) (c_iM E _ (by decide)) rfl inlX1 6 (by decide) rfl q378 (congrArg (fun z => some (Value.long z)) (show _ = cps (μ.1 0) t2 (cur1 (μ.1 0)).toInt64 from (by first | (simp [pM, pJ, upM, upJ, sF, tN, tD, tR, tk_M, tk_K, tk_0, tk_1, tk_2, tk_3, tk_4, tk_5, tk_6, tk_7, tk_8, tk_9, tk_10, tk_o, ms_0_0, ms_0_1, ms_0_2, ms_0_3, ms_0_4, ms_0_5, ms_0_6, ms_0_7, ms_0_8, ms_0_9, ms_0_10, ms_1_0, ms_1_1, ms_1_2, ms_1_3, ms_1_4, ms_1_5, ms_1_6, ms_1_7, ms_1_8, ms_1_9, ms_1_10, ms_w, ms_r, ms_d, ms_M, ms_6, ms_K]; done) | (simp (disch := (first | omega | (simp only [tN, tD, tR, sF]; omega))) only [pM, pJ, upM_s, upM_k, upM_c, upJ_s, upJ_k, upJ_c, tk_M, tk_K, tk_0, tk_1, tk_2, tk_3, tk_4, tk_5, tk_6, tk_7, tk_8, tk_9, tk_10, tk_o, ms_0_0, ms_0_1, ms_0_2, ms_0_3, ms_0_4, ms_0_5, ms_0_6, ms_0_7, ms_0_8, ms_0_9, ms_0_10, ms_1_0, ms_1_1, ms_1_2, ms_1_3, ms_1_4, ms_1_5, ms_1_6, ms_1_7, ms_1_8, ms_1_9, ms_1_10, ms_w, ms_r, ms_d, ms_M, ms_6, ms_K])))) dX7_ohms_129 ?_
              refine lv_l2i hx hb dX7_ohms_132 rfl ?_
              exact e_i hf hr hlocks hw rfl ((oc_some o1).trans ((if_pos c4).trans ((if_neg c5).trans ((if_neg c6).trans ((if_neg c7).trans ((if_pos c8).trans rfl)))))) dX7_ohms_133
            · skip
              by_cases c9 : b = 4
              · refine lv_tableIn (off := 93) (tgt := 134) hx hb dX7_ohms_41 (by rw [c9]; decide) (by rw [c9]; decide) (by rw [c9]; rfl) (by decide) ?_
                refine lv_aload_n hx hb dX7_ohms_134 rfl (lv_at hl 1 rfl) ?_
                refine g_f hw hf (by decide) (c_O E _) rfl inlX7 3 (by decide) rfl q32 rfl dX7_ohms_135 ?_
                refine g_f hw hf (by decide) (c_Me E _) rfl inlX2 1 (by decide) rfl q379 rfl dX7_ohms_138 ?_
                refine g_f hw hf (lt_iM (by decide)) (c_iM E _ (by decide)) rfl inlX1 6 (by decide) rfl q378 (congrArg (fun z => some (Value.long z)) (show _ = cps (μ.1 0) t2 (cur2 (μ.1 0)).toInt64 from (by first | (simp [pM, pJ, upM, upJ, sF, tN, tD, tR, tk_M, tk_K, tk_0, tk_1, tk_2, tk_3, tk_4, tk_5, tk_6, tk_7, tk_8, tk_9, tk_10, tk_o, ms_0_0, ms_0_1, ms_0_2, ms_0_3, ms_0_4, ms_0_5, ms_0_6, ms_0_7, ms_0_8, ms_0_9, ms_0_10, ms_1_0, ms_1_1, ms_1_2, ms_1_3, ms_1_4, ms_1_5, ms_1_6, ms_1_7, ms_1_8, ms_1_9, ms_1_10, ms_w, ms_r, ms_d, ms_M, ms_6, ms_K]; done) | (simp (disch := (first | omega | (simp only [tN, tD, tR, sF]; omega))) only [pM, pJ, upM_s, upM_k, upM_c, upJ_s, upJ_k, upJ_c, tk_M, tk_K, tk_0, tk_1, tk_2, tk_3, tk_4, tk_5, tk_6, tk_7, tk_8, tk_9, tk_10, tk_o, ms_0_0, ms_0_1, ms_0_2, ms_0_3, ms_0_4, ms_0_5, ms_0_6, ms_0_7, ms_0_8, ms_0_9, ms_0_10, ms_1_0, ms_1_1, ms_1_2, ms_1_3, ms_1_4, ms_1_5, ms_1_6, ms_1_7, ms_1_8, ms_1_9, ms_1_10, ms_w, ms_r, ms_d, ms_M, ms_6, ms_K])))) dX7_ohms_141 ?_
                refine lv_l2i hx hb dX7_ohms_144 rfl ?_
                exact e_i hf hr hlocks hw rfl ((oc_some o1).trans ((if_pos c4).trans ((if_neg c5).trans ((if_neg c6).trans ((if_neg c7).trans ((if_neg c8).trans ((if_pos c9).trans rfl))))))) dX7_ohms_145
              · skip
                have hsw : b.toInt ≠ 0 ∧ b.toInt ≠ 1 ∧ b.toInt ≠ 2 ∧ b.toInt ≠ 3 ∧ b.toInt ≠ 4 := ⟨ne_toInt c5 (by decide), ne_toInt c6 (by decide), ne_toInt c7 (by decide), ne_toInt c8 (by decide), ne_toInt c9 (by decide)⟩
                refine lv_tableOut (tgt := 146) hx hb dX7_ohms_41 (by omega) (by decide) ?_
                refine lv_aload_n hx hb dX7_ohms_146 rfl (lv_at hl 1 rfl) ?_
                refine g_f hw hf (by decide) (c_O E _) rfl inlX7 3 (by decide) rfl q32 rfl dX7_ohms_147 ?_
                refine g_f hw hf (by decide) (c_Me E _) rfl inlX2 2 (by decide) rfl q380 (congrArg (fun z => some (Value.long z)) (show _ = wop (μ.1 0) t2 from (by first | (simp [pM, pJ, upM, upJ, sF, tN, tD, tR, tk_M, tk_K, tk_0, tk_1, tk_2, tk_3, tk_4, tk_5, tk_6, tk_7, tk_8, tk_9, tk_10, tk_o, ms_0_0, ms_0_1, ms_0_2, ms_0_3, ms_0_4, ms_0_5, ms_0_6, ms_0_7, ms_0_8, ms_0_9, ms_0_10, ms_1_0, ms_1_1, ms_1_2, ms_1_3, ms_1_4, ms_1_5, ms_1_6, ms_1_7, ms_1_8, ms_1_9, ms_1_10, ms_w, ms_r, ms_d, ms_M, ms_6, ms_K]; done) | (simp (disch := (first | omega | (simp only [tN, tD, tR, sF]; omega))) only [pM, pJ, upM_s, upM_k, upM_c, upJ_s, upJ_k, upJ_c, tk_M, tk_K, tk_0, tk_1, tk_2, tk_3, tk_4, tk_5, tk_6, tk_7, tk_8, tk_9, tk_10, tk_o, ms_0_0, ms_0_1, ms_0_2, ms_0_3, ms_0_4, ms_0_5, ms_0_6, ms_0_7, ms_0_8, ms_0_9, ms_0_10, ms_1_0, ms_1_1, ms_1_2, ms_1_3, ms_1_4, ms_1_5, ms_1_6, ms_1_7, ms_1_8, ms_1_9, ms_1_10, ms_w, ms_r, ms_d, ms_M, ms_6, ms_K])))) dX7_ohms_150 ?_
                refine lv_l2i hx hb dX7_ohms_153 rfl ?_
                exact e_i hf hr hlocks hw rfl ((oc_some o1).trans ((if_pos c4).trans ((if_neg c5).trans ((if_neg c6).trans ((if_neg c7).trans ((if_neg c8).trans ((if_neg c9).trans rfl))))))) dX7_ohms_154
    · replace c4 := (bz_0 _).mp c4
      refine lv_ldc hx hb hf.2.2.2.1 (hf.2.2.2.2 _ q113) dX7_ohms_25 ?_
      exact e_i hf hr hlocks hw rfl ((oc_some o1).trans ((if_neg c4).trans rfl)) dX7_ohms_27
def sp_X7_diagnosis (μ : Mu)  (a : Int32) : Int32 × Mu :=
  oc (sp_X4_sensorAt (μ.1 0)  a) (
    ((-2000000001), μ)) (fun t2 =>
    (dgn (μ.1 0) t2, msr μ 0 t2))
set_option maxHeartbeats 4000000 in
set_option maxRecDepth 100000 in
theorem k_X7_diagnosis (l : Launch) (E : En) (μ : Mu)  (a : Int32)  : MtI l yX7_diagnosis cX7_diagnosis 3 .int ({ frames := 4, cells := 0, slots := 0, locals := 111 }) [.ref (E.1 (231)), .int (a)] E μ (sp_X7_diagnosis μ a) := by
  refine mt_of (by decide +kernel) (Nat.le_of_ble_eq_true rfl) ?_
  intro p e s m args below meth c ls hf hr hlocks hl hw
  have hx := hf.1
  have hb := hf.2.1
  have hl : lv_has ls 3 [(0, .ref (E.1 (231))), (1, .int (a))] := hl
  refine lv_aload_n hx hb dX7_diagnosis_0 rfl (lv_at hl 0 rfl) ?_
  refine g_f hw hf (by decide) (c_O E _) rfl inlX7 0 (by decide) rfl q23 rfl dX7_diagnosis_1 ?_
  refine lv_iload_n hx hb dX7_diagnosis_4 rfl (lv_at hl 1 rfl) ?_
  refine c_q hw (run_V (As := [.int (a)]) (rest := []) (np := 1) hf hw (k_X4_sensorAt l E _ (by decide) a  ) ⟨gl_V q220 q221 q222 q22 q223, by decide +kernel⟩ ⟨rfl, rfl, Nat.le_of_ble_eq_true rfl, Nat.le_of_ble_eq_true rfl⟩ (lt_iS (by decide)) (c_iS E _ (by decide)) rfl rfl hl.1 rfl (Nat.le_of_ble_eq_true rfl) dX7_diagnosis_5 ⟨Nat.zero_le _, Nat.zero_le _⟩) (fun H locs hw => ?_)
  rcases o1 : sp_X4_sensorAt (μ.1 0)  a with _ | t2
  · refine W.eq (g2 := F0 m 8 ls [.null]) rfl ?_
    refine lv_astore_nN (lv' := [(2, .null), (0, .ref (E.1 (231))), (1, .int (a))]) hx hb dX7_diagnosis_8 rfl hl (by decide) rfl (fun ls hl => ?_)
    refine lv_aload_nN hx hb dX7_diagnosis_9 rfl (lv_at hl 0 rfl) ?_
    refine lv_ifnonnullN hx hb dX7_diagnosis_10 ?_
    refine lv_ldc hx hb hf.2.2.2.1 (hf.2.2.2.2 _ q113) dX7_diagnosis_13 ?_
    exact e_i hf hr hlocks hw rfl ((oc_none o1).trans rfl) dX7_diagnosis_15
  · have ht3 : t2 < 6 := (b_X4_sensorAt o1)
    refine W.eq (g2 := F0 m 8 ls [.ref (E.1 (iN 0 t2))]) rfl ?_
    refine lv_astore_n (lv' := [(2, .ref (E.1 (iN 0 t2))), (0, .ref (E.1 (231))), (1, .int (a))]) hx hb dX7_diagnosis_8 rfl hl (by decide) rfl (fun ls hl => ?_)
    refine lv_aload_n hx hb dX7_diagnosis_9 rfl (lv_at hl 0 rfl) ?_
    refine lv_ifnonnull (tgt := 16) hx hb dX7_diagnosis_10 (by decide) ?_
    refine lv_aload_n hx hb dX7_diagnosis_16 rfl (lv_at hl 1 rfl) ?_
    refine g_f hw hf (by decide) (c_O E _) rfl inlX7 3 (by decide) rfl q32 rfl dX7_diagnosis_17 ?_
    refine lv_aload_n hx hb dX7_diagnosis_20 rfl (lv_at hl 1 rfl) ?_
    refine g_f hw hf (by decide) (c_O E _) rfl inlX7 0 (by decide) rfl q23 rfl dX7_diagnosis_21 ?_
    refine lv_aload_n hx hb dX7_diagnosis_24 rfl (lv_at hl 0 rfl) ?_
    refine c_v hw (run_V (As := [.ref (E.1 (iS 0)), .ref (E.1 (iN 0 t2))]) (rest := []) (np := 2) hf hw (kn_X2_measure l E _ (by decide) ht3  (by decide) ) ⟨gl_V q250 q251 q252 q31 q253, by decide +kernel⟩ ⟨rfl, rfl, Nat.le_of_ble_eq_true rfl, Nat.le_of_ble_eq_true rfl⟩ (by decide) (c_Me E _) rfl rfl hl.1 rfl (Nat.le_of_ble_eq_true rfl) dX7_diagnosis_25 ⟨Nat.zero_le _, Nat.zero_le _⟩) (fun H locs hw => ?_)
    refine lv_aload_n hx hb dX7_diagnosis_28 rfl (lv_at hl 1 rfl) ?_
    refine g_f hw hf (by decide) (c_O E _) rfl inlX7 3 (by decide) rfl q32 rfl dX7_diagnosis_29 ?_
    refine g_f hw hf (by decide) (c_Me E _) rfl inlX2 4 (by decide) rfl q249 (congrArg (fun z => some (Value.int z)) (show _ = dgn (μ.1 0) t2 from (by first | (simp [pM, pJ, upM, upJ, sF, tN, tD, tR, tk_M, tk_K, tk_0, tk_1, tk_2, tk_3, tk_4, tk_5, tk_6, tk_7, tk_8, tk_9, tk_10, tk_o, ms_0_0, ms_0_1, ms_0_2, ms_0_3, ms_0_4, ms_0_5, ms_0_6, ms_0_7, ms_0_8, ms_0_9, ms_0_10, ms_1_0, ms_1_1, ms_1_2, ms_1_3, ms_1_4, ms_1_5, ms_1_6, ms_1_7, ms_1_8, ms_1_9, ms_1_10, ms_w, ms_r, ms_d, ms_M, ms_6, ms_K]; done) | (simp (disch := (first | omega | (simp only [tN, tD, tR, sF]; omega))) only [pM, pJ, upM_s, upM_k, upM_c, upJ_s, upJ_k, upJ_c, tk_M, tk_K, tk_0, tk_1, tk_2, tk_3, tk_4, tk_5, tk_6, tk_7, tk_8, tk_9, tk_10, tk_o, ms_0_0, ms_0_1, ms_0_2, ms_0_3, ms_0_4, ms_0_5, ms_0_6, ms_0_7, ms_0_8, ms_0_9, ms_0_10, ms_1_0, ms_1_1, ms_1_2, ms_1_3, ms_1_4, ms_1_5, ms_1_6, ms_1_7, ms_1_8, ms_1_9, ms_1_10, ms_w, ms_r, ms_d, ms_M, ms_6, ms_K])))) dX7_diagnosis_32 ?_
    exact e_i hf hr hlocks hw rfl ((oc_some o1).trans rfl) dX7_diagnosis_35
def sp_X7_read (μ : Mu)  (a : Int32) : Int32 × Mu :=
  oc (sp_X4_sensorAt (μ.1 0)  a) (
    ((-2000000001), μ)) (fun t2 =>
    if (dgn (μ.1 0) t2 : Int32) = 0 then
      ((sp_X3_log (sp_X0_record (msr μ 0 t2)  ) 0 t2 ((sp_X0_record (msr μ 0 t2)  ).1 6 1)).1 6 1, sp_X3_log (sp_X0_record (msr μ 0 t2)  ) 0 t2 ((sp_X0_record (msr μ 0 t2)  ).1 6 1))
    else
      ((-2000000002), msr μ 0 t2))
set_option maxHeartbeats 4000000 in
set_option maxRecDepth 100000 in
theorem k_X7_read (l : Launch) (E : En) (μ : Mu)  (a : Int32) (hK : KOk μ.2.2) : MtI l yX7_read cX7_read 3 .int ({ frames := 4, cells := 0, slots := 0, locals := 111 }) [.ref (E.1 (231)), .int (a)] E μ (sp_X7_read μ a) := by
  refine mt_of (by decide +kernel) (Nat.le_of_ble_eq_true rfl) ?_
  intro p e s m args below meth c ls hf hr hlocks hl hw
  have hx := hf.1
  have hb := hf.2.1
  have hl : lv_has ls 3 [(0, .ref (E.1 (231))), (1, .int (a))] := hl
  refine lv_aload_n hx hb dX7_read_0 rfl (lv_at hl 0 rfl) ?_
  refine g_f hw hf (by decide) (c_O E _) rfl inlX7 0 (by decide) rfl q23 rfl dX7_read_1 ?_
  refine lv_iload_n hx hb dX7_read_4 rfl (lv_at hl 1 rfl) ?_
  refine c_q hw (run_V (As := [.int (a)]) (rest := []) (np := 1) hf hw (k_X4_sensorAt l E _ (by decide) a  ) ⟨gl_V q220 q221 q222 q22 q223, by decide +kernel⟩ ⟨rfl, rfl, Nat.le_of_ble_eq_true rfl, Nat.le_of_ble_eq_true rfl⟩ (lt_iS (by decide)) (c_iS E _ (by decide)) rfl rfl hl.1 rfl (Nat.le_of_ble_eq_true rfl) dX7_read_5 ⟨Nat.zero_le _, Nat.zero_le _⟩) (fun H locs hw => ?_)
  rcases o1 : sp_X4_sensorAt (μ.1 0)  a with _ | t2
  · refine W.eq (g2 := F0 m 8 ls [.null]) rfl ?_
    refine lv_astore_nN (lv' := [(2, .null), (0, .ref (E.1 (231))), (1, .int (a))]) hx hb dX7_read_8 rfl hl (by decide) rfl (fun ls hl => ?_)
    refine lv_aload_nN hx hb dX7_read_9 rfl (lv_at hl 0 rfl) ?_
    refine lv_ifnonnullN hx hb dX7_read_10 ?_
    refine lv_ldc hx hb hf.2.2.2.1 (hf.2.2.2.2 _ q113) dX7_read_13 ?_
    exact e_i hf hr hlocks hw rfl ((oc_none o1).trans rfl) dX7_read_15
  · have ht3 : t2 < 6 := (b_X4_sensorAt o1)
    refine W.eq (g2 := F0 m 8 ls [.ref (E.1 (iN 0 t2))]) rfl ?_
    refine lv_astore_n (lv' := [(2, .ref (E.1 (iN 0 t2))), (0, .ref (E.1 (231))), (1, .int (a))]) hx hb dX7_read_8 rfl hl (by decide) rfl (fun ls hl => ?_)
    refine lv_aload_n hx hb dX7_read_9 rfl (lv_at hl 0 rfl) ?_
    refine lv_ifnonnull (tgt := 16) hx hb dX7_read_10 (by decide) ?_
    refine lv_aload_n hx hb dX7_read_16 rfl (lv_at hl 1 rfl) ?_
    refine g_f hw hf (by decide) (c_O E _) rfl inlX7 3 (by decide) rfl q32 rfl dX7_read_17 ?_
    refine lv_aload_n hx hb dX7_read_20 rfl (lv_at hl 1 rfl) ?_
    refine g_f hw hf (by decide) (c_O E _) rfl inlX7 0 (by decide) rfl q23 rfl dX7_read_21 ?_
    refine lv_aload_n hx hb dX7_read_24 rfl (lv_at hl 0 rfl) ?_
    refine c_v hw (run_V (As := [.ref (E.1 (iS 0)), .ref (E.1 (iN 0 t2))]) (rest := []) (np := 2) hf hw (kn_X2_measure l E _ (by decide) ht3  (by decide) ) ⟨gl_V q250 q251 q252 q31 q253, by decide +kernel⟩ ⟨rfl, rfl, Nat.le_of_ble_eq_true rfl, Nat.le_of_ble_eq_true rfl⟩ (by decide) (c_Me E _) rfl rfl hl.1 rfl (Nat.le_of_ble_eq_true rfl) dX7_read_25 ⟨Nat.zero_le _, Nat.zero_le _⟩) (fun H locs hw => ?_)
    refine lv_aload_n hx hb dX7_read_28 rfl (lv_at hl 1 rfl) ?_
    refine g_f hw hf (by decide) (c_O E _) rfl inlX7 3 (by decide) rfl q32 rfl dX7_read_29 ?_
    refine g_f hw hf (by decide) (c_Me E _) rfl inlX2 4 (by decide) rfl q249 (congrArg (fun z => some (Value.int z)) (show _ = dgn (μ.1 0) t2 from (by first | (simp [pM, pJ, upM, upJ, sF, tN, tD, tR, tk_M, tk_K, tk_0, tk_1, tk_2, tk_3, tk_4, tk_5, tk_6, tk_7, tk_8, tk_9, tk_10, tk_o, ms_0_0, ms_0_1, ms_0_2, ms_0_3, ms_0_4, ms_0_5, ms_0_6, ms_0_7, ms_0_8, ms_0_9, ms_0_10, ms_1_0, ms_1_1, ms_1_2, ms_1_3, ms_1_4, ms_1_5, ms_1_6, ms_1_7, ms_1_8, ms_1_9, ms_1_10, ms_w, ms_r, ms_d, ms_M, ms_6, ms_K]; done) | (simp (disch := (first | omega | (simp only [tN, tD, tR, sF]; omega))) only [pM, pJ, upM_s, upM_k, upM_c, upJ_s, upJ_k, upJ_c, tk_M, tk_K, tk_0, tk_1, tk_2, tk_3, tk_4, tk_5, tk_6, tk_7, tk_8, tk_9, tk_10, tk_o, ms_0_0, ms_0_1, ms_0_2, ms_0_3, ms_0_4, ms_0_5, ms_0_6, ms_0_7, ms_0_8, ms_0_9, ms_0_10, ms_1_0, ms_1_1, ms_1_2, ms_1_3, ms_1_4, ms_1_5, ms_1_6, ms_1_7, ms_1_8, ms_1_9, ms_1_10, ms_w, ms_r, ms_d, ms_M, ms_6, ms_K])))) dX7_read_32 ?_
    refine lv_if_eq (tgt := 41) hx hb dX7_read_35 (by decide) (fun c4 => ?_) (fun c4 => ?_)
    · refine lv_aload_n hx hb dX7_read_41 rfl (lv_at hl 1 rfl) ?_
      refine g_f hw hf (by decide) (c_O E _) rfl inlX7 2 (by decide) rfl q28 rfl dX7_read_42 ?_
      refine lv_aload_n hx hb dX7_read_45 rfl (lv_at hl 1 rfl) ?_
      refine g_f hw hf (by decide) (c_O E _) rfl inlX7 0 (by decide) rfl q23 rfl dX7_read_46 ?_
      refine c_v hw (run_V (As := [.ref (E.1 (iS 0))]) (rest := []) (np := 1) hf hw (k_X0_record l E _    hK) ⟨gl_V q392 q393 q394 q27 q395, by decide +kernel⟩ ⟨rfl, rfl, Nat.le_of_ble_eq_true rfl, Nat.le_of_ble_eq_true rfl⟩ (by decide) (c_Hi E _) rfl rfl hl.1 rfl (Nat.le_of_ble_eq_true rfl) dX7_read_49 ⟨Nat.zero_le _, Nat.zero_le _⟩) (fun H locs hw => ?_)
      refine lv_aload_n hx hb dX7_read_52 rfl (lv_at hl 0 rfl) ?_
      refine lv_aload_n hx hb dX7_read_53 rfl (lv_at hl 1 rfl) ?_
      refine g_f hw hf (by decide) (c_O E _) rfl inlX7 3 (by decide) rfl q32 rfl dX7_read_54 ?_
      refine g_f hw hf (by decide) (c_Me E _) rfl inlX2 3 (by decide) rfl q510 rfl dX7_read_57 ?_
      refine c_v hw (run_V (As := [.int ((sp_X0_record (msr μ 0 t2)  ).1 6 1)]) (rest := []) (np := 1) hf hw (k_X3_log l E _ (by decide) ht3 ((sp_X0_record (msr μ 0 t2)  ).1 6 1)  ) ⟨gl_V q511 q512 q513 q56 q514, by decide +kernel⟩ ⟨rfl, rfl, Nat.le_of_ble_eq_true rfl, Nat.le_of_ble_eq_true rfl⟩ (lt_iN (by decide) ht3) (c_iN E _ (by decide) ht3) rfl rfl hl.1 rfl (Nat.le_of_ble_eq_true rfl) dX7_read_60 ⟨Nat.zero_le _, Nat.zero_le _⟩) (fun H locs hw => ?_)
      refine lv_aload_n hx hb dX7_read_63 rfl (lv_at hl 1 rfl) ?_
      refine g_f hw hf (by decide) (c_O E _) rfl inlX7 3 (by decide) rfl q32 rfl dX7_read_64 ?_
      refine g_f hw hf (by decide) (c_Me E _) rfl inlX2 3 (by decide) rfl q510 rfl dX7_read_67 ?_
      exact e_i hf hr hlocks hw rfl ((oc_some o1).trans ((if_pos c4).trans rfl)) dX7_read_70
    · refine lv_ldc hx hb hf.2.2.2.1 (hf.2.2.2.2 _ q429) dX7_read_38 ?_
      exact e_i hf hr hlocks hw rfl ((oc_some o1).trans ((if_neg c4).trans rfl)) dX7_read_40
def sp_X7_scan (μ : Mu)   : Int32 × Mu :=
  oc (sp_X4_sensorAt (μ.1 0)  (sp_X4_nextPlugged (μ.1 0)  )) (
    ((-2000000002), μ)) (fun t2 =>
    if (dgn ((pM (sp_X0_record μ  ) 0 2 ((sp_X0_record μ  ).1 0 (sF t2 6))).1 0) t2 : Int32) = 0 then
      (sp_X4_nextPlugged (μ.1 0)  , sp_X3_log (msr (pM (sp_X0_record μ  ) 0 2 ((sp_X0_record μ  ).1 0 (sF t2 6))) 0 t2) 0 t2 (rdg ((pM (sp_X0_record μ  ) 0 2 ((sp_X0_record μ  ).1 0 (sF t2 6))).1 0) t2))
    else
      ((-1) - (sp_X4_nextPlugged (μ.1 0)  ), msr (pM (sp_X0_record μ  ) 0 2 ((sp_X0_record μ  ).1 0 (sF t2 6))) 0 t2))
set_option maxHeartbeats 4000000 in
set_option maxRecDepth 100000 in
theorem k_X7_scan (l : Launch) (E : En) (μ : Mu)   (hK : KOk μ.2.2) : MtI l yX7_scan cX7_scan 3 .int ({ frames := 4, cells := 0, slots := 0, locals := 111 }) [.ref (E.1 (231))] E μ (sp_X7_scan μ ) := by
  refine mt_of (by decide +kernel) (Nat.le_of_ble_eq_true rfl) ?_
  intro p e s m args below meth c ls hf hr hlocks hl hw
  have hx := hf.1
  have hb := hf.2.1
  have hl : lv_has ls 3 [(0, .ref (E.1 (231)))] := hl
  refine lv_aload_n hx hb dX7_scan_0 rfl (lv_at hl 0 rfl) ?_
  refine g_f hw hf (by decide) (c_O E _) rfl inlX7 0 (by decide) rfl q23 rfl dX7_scan_1 ?_
  refine c_iR hw (run_V (As := []) (rest := []) (np := 0) hf hw (k_X4_nextPlugged l E _ (by decide)   ) ⟨gl_V q591 q592 q593 q22 q594, by decide +kernel⟩ ⟨rfl, rfl, Nat.le_of_ble_eq_true rfl, Nat.le_of_ble_eq_true rfl⟩ (lt_iS (by decide)) (c_iS E _ (by decide)) rfl rfl hl.1 rfl (Nat.le_of_ble_eq_true rfl) dX7_scan_4 ⟨Nat.zero_le _, Nat.zero_le _⟩) (fun H locs hw => ?_)
  refine lv_istore_n (lv' := [(1, .int (sp_X4_nextPlugged (μ.1 0)  )), (0, .ref (E.1 (231)))]) hx hb dX7_scan_7 rfl hl (by decide) rfl (fun ls hl => ?_)
  refine lv_aload_n hx hb dX7_scan_8 rfl (lv_at hl 1 rfl) ?_
  refine g_f hw hf (by decide) (c_O E _) rfl inlX7 0 (by decide) rfl q23 rfl dX7_scan_9 ?_
  refine lv_iload_n hx hb dX7_scan_12 rfl (lv_at hl 0 rfl) ?_
  refine c_q hw (run_V (As := [.int (sp_X4_nextPlugged (μ.1 0)  )]) (rest := []) (np := 1) hf hw (k_X4_sensorAt l E _ (by decide) (sp_X4_nextPlugged (μ.1 0)  )  ) ⟨gl_V q220 q221 q222 q22 q223, by decide +kernel⟩ ⟨rfl, rfl, Nat.le_of_ble_eq_true rfl, Nat.le_of_ble_eq_true rfl⟩ (lt_iS (by decide)) (c_iS E _ (by decide)) rfl rfl hl.1 rfl (Nat.le_of_ble_eq_true rfl) dX7_scan_13 ⟨Nat.zero_le _, Nat.zero_le _⟩) (fun H locs hw => ?_)
  rcases o1 : sp_X4_sensorAt (μ.1 0)  (sp_X4_nextPlugged (μ.1 0)  ) with _ | t2
  · refine W.eq (g2 := F0 m 16 ls [.null]) rfl ?_
    refine lv_astore_nN (lv' := [(2, .null), (1, .int (sp_X4_nextPlugged (μ.1 0)  )), (0, .ref (E.1 (231)))]) hx hb dX7_scan_16 rfl hl (by decide) rfl (fun ls hl => ?_)
    refine lv_aload_nN hx hb dX7_scan_17 rfl (lv_at hl 0 rfl) ?_
    refine lv_ifnonnullN hx hb dX7_scan_18 ?_
    refine lv_ldc hx hb hf.2.2.2.1 (hf.2.2.2.2 _ q429) dX7_scan_21 ?_
    exact e_i hf hr hlocks hw rfl ((oc_none o1).trans rfl) dX7_scan_23
  · have ht3 : t2 < 6 := (b_X4_sensorAt o1)
    refine W.eq (g2 := F0 m 16 ls [.ref (E.1 (iN 0 t2))]) rfl ?_
    refine lv_astore_n (lv' := [(2, .ref (E.1 (iN 0 t2))), (1, .int (sp_X4_nextPlugged (μ.1 0)  )), (0, .ref (E.1 (231)))]) hx hb dX7_scan_16 rfl hl (by decide) rfl (fun ls hl => ?_)
    refine lv_aload_n hx hb dX7_scan_17 rfl (lv_at hl 0 rfl) ?_
    refine lv_ifnonnull (tgt := 24) hx hb dX7_scan_18 (by decide) ?_
    refine lv_aload_n hx hb dX7_scan_24 rfl (lv_at hl 2 rfl) ?_
    refine g_f hw hf (by decide) (c_O E _) rfl inlX7 2 (by decide) rfl q28 rfl dX7_scan_25 ?_
    refine lv_aload_n hx hb dX7_scan_28 rfl (lv_at hl 2 rfl) ?_
    refine g_f hw hf (by decide) (c_O E _) rfl inlX7 0 (by decide) rfl q23 rfl dX7_scan_29 ?_
    refine c_v hw (run_V (As := [.ref (E.1 (iS 0))]) (rest := []) (np := 1) hf hw (k_X0_record l E _    hK) ⟨gl_V q392 q393 q394 q27 q395, by decide +kernel⟩ ⟨rfl, rfl, Nat.le_of_ble_eq_true rfl, Nat.le_of_ble_eq_true rfl⟩ (by decide) (c_Hi E _) rfl rfl hl.1 rfl (Nat.le_of_ble_eq_true rfl) dX7_scan_32 ⟨Nat.zero_le _, Nat.zero_le _⟩) (fun H locs hw => ?_)
    refine lv_aload_n hx hb dX7_scan_35 rfl (lv_at hl 2 rfl) ?_
    refine g_f hw hf (by decide) (c_O E _) rfl inlX7 0 (by decide) rfl q23 rfl dX7_scan_36 ?_
    refine lv_aload_n hx hb dX7_scan_39 rfl (lv_at hl 0 rfl) ?_
    refine g_f hw hf (lt_iN (by decide) ht3) (c_iN E _ (by decide) ht3) rfl inlX3 6 (by decide) rfl q214 rfl dX7_scan_40 ?_
    refine p_f hw hf (lt_iS (by decide)) (c_iS E _ (by decide)) rfl inlX4 tyX4_ok nmX4 2 (by decide) rfl q110 rfl rfl rfl (Nat.le_of_ble_eq_true rfl) (s_S_2 E _ (by decide) _) dX7_scan_43 (fun H locs hw => ?_)
    refine lv_aload_n hx hb dX7_scan_46 rfl (lv_at hl 2 rfl) ?_
    refine g_f hw hf (by decide) (c_O E _) rfl inlX7 3 (by decide) rfl q32 rfl dX7_scan_47 ?_
    refine lv_aload_n hx hb dX7_scan_50 rfl (lv_at hl 2 rfl) ?_
    refine g_f hw hf (by decide) (c_O E _) rfl inlX7 0 (by decide) rfl q23 rfl dX7_scan_51 ?_
    refine lv_aload_n hx hb dX7_scan_54 rfl (lv_at hl 0 rfl) ?_
    refine c_v hw (run_V (As := [.ref (E.1 (iS 0)), .ref (E.1 (iN 0 t2))]) (rest := []) (np := 2) hf hw (kn_X2_measure l E _ (by decide) ht3  (by decide) ) ⟨gl_V q250 q251 q252 q31 q253, by decide +kernel⟩ ⟨rfl, rfl, Nat.le_of_ble_eq_true rfl, Nat.le_of_ble_eq_true rfl⟩ (by decide) (c_Me E _) rfl rfl hl.1 rfl (Nat.le_of_ble_eq_true rfl) dX7_scan_55 ⟨Nat.zero_le _, Nat.zero_le _⟩) (fun H locs hw => ?_)
    refine lv_aload_n hx hb dX7_scan_58 rfl (lv_at hl 2 rfl) ?_
    refine g_f hw hf (by decide) (c_O E _) rfl inlX7 3 (by decide) rfl q32 rfl dX7_scan_59 ?_
    refine g_f hw hf (by decide) (c_Me E _) rfl inlX2 4 (by decide) rfl q249 (congrArg (fun z => some (Value.int z)) (show _ = dgn ((pM (sp_X0_record μ  ) 0 2 ((sp_X0_record μ  ).1 0 (sF t2 6))).1 0) t2 from (by first | (simp [pM, pJ, upM, upJ, sF, tN, tD, tR, tk_M, tk_K, tk_0, tk_1, tk_2, tk_3, tk_4, tk_5, tk_6, tk_7, tk_8, tk_9, tk_10, tk_o, ms_0_0, ms_0_1, ms_0_2, ms_0_3, ms_0_4, ms_0_5, ms_0_6, ms_0_7, ms_0_8, ms_0_9, ms_0_10, ms_1_0, ms_1_1, ms_1_2, ms_1_3, ms_1_4, ms_1_5, ms_1_6, ms_1_7, ms_1_8, ms_1_9, ms_1_10, ms_w, ms_r, ms_d, ms_M, ms_6, ms_K]; done) | (simp (disch := (first | omega | (simp only [tN, tD, tR, sF]; omega))) only [pM, pJ, upM_s, upM_k, upM_c, upJ_s, upJ_k, upJ_c, tk_M, tk_K, tk_0, tk_1, tk_2, tk_3, tk_4, tk_5, tk_6, tk_7, tk_8, tk_9, tk_10, tk_o, ms_0_0, ms_0_1, ms_0_2, ms_0_3, ms_0_4, ms_0_5, ms_0_6, ms_0_7, ms_0_8, ms_0_9, ms_0_10, ms_1_0, ms_1_1, ms_1_2, ms_1_3, ms_1_4, ms_1_5, ms_1_6, ms_1_7, ms_1_8, ms_1_9, ms_1_10, ms_w, ms_r, ms_d, ms_M, ms_6, ms_K])))) dX7_scan_62 ?_
    refine lv_if_eq (tgt := 72) hx hb dX7_scan_65 (by decide) (fun c4 => ?_) (fun c4 => ?_)
    · refine lv_aload_n hx hb dX7_scan_72 rfl (lv_at hl 0 rfl) ?_
      refine lv_aload_n hx hb dX7_scan_73 rfl (lv_at hl 2 rfl) ?_
      refine g_f hw hf (by decide) (c_O E _) rfl inlX7 3 (by decide) rfl q32 rfl dX7_scan_74 ?_
      refine g_f hw hf (by decide) (c_Me E _) rfl inlX2 3 (by decide) rfl q510 (congrArg (fun z => some (Value.int z)) (show _ = rdg ((pM (sp_X0_record μ  ) 0 2 ((sp_X0_record μ  ).1 0 (sF t2 6))).1 0) t2 from (by first | (simp [pM, pJ, upM, upJ, sF, tN, tD, tR, tk_M, tk_K, tk_0, tk_1, tk_2, tk_3, tk_4, tk_5, tk_6, tk_7, tk_8, tk_9, tk_10, tk_o, ms_0_0, ms_0_1, ms_0_2, ms_0_3, ms_0_4, ms_0_5, ms_0_6, ms_0_7, ms_0_8, ms_0_9, ms_0_10, ms_1_0, ms_1_1, ms_1_2, ms_1_3, ms_1_4, ms_1_5, ms_1_6, ms_1_7, ms_1_8, ms_1_9, ms_1_10, ms_w, ms_r, ms_d, ms_M, ms_6, ms_K]; done) | (simp (disch := (first | omega | (simp only [tN, tD, tR, sF]; omega))) only [pM, pJ, upM_s, upM_k, upM_c, upJ_s, upJ_k, upJ_c, tk_M, tk_K, tk_0, tk_1, tk_2, tk_3, tk_4, tk_5, tk_6, tk_7, tk_8, tk_9, tk_10, tk_o, ms_0_0, ms_0_1, ms_0_2, ms_0_3, ms_0_4, ms_0_5, ms_0_6, ms_0_7, ms_0_8, ms_0_9, ms_0_10, ms_1_0, ms_1_1, ms_1_2, ms_1_3, ms_1_4, ms_1_5, ms_1_6, ms_1_7, ms_1_8, ms_1_9, ms_1_10, ms_w, ms_r, ms_d, ms_M, ms_6, ms_K])))) dX7_scan_77 ?_
      refine c_v hw (run_V (As := [.int (rdg ((pM (sp_X0_record μ  ) 0 2 ((sp_X0_record μ  ).1 0 (sF t2 6))).1 0) t2)]) (rest := []) (np := 1) hf hw (k_X3_log l E _ (by decide) ht3 (rdg ((pM (sp_X0_record μ  ) 0 2 ((sp_X0_record μ  ).1 0 (sF t2 6))).1 0) t2)  ) ⟨gl_V q511 q512 q513 q56 q514, by decide +kernel⟩ ⟨rfl, rfl, Nat.le_of_ble_eq_true rfl, Nat.le_of_ble_eq_true rfl⟩ (lt_iN (by decide) ht3) (c_iN E _ (by decide) ht3) rfl rfl hl.1 rfl (Nat.le_of_ble_eq_true rfl) dX7_scan_80 ⟨Nat.zero_le _, Nat.zero_le _⟩) (fun H locs hw => ?_)
      refine lv_iload_n hx hb dX7_scan_83 rfl (lv_at hl 1 rfl) ?_
      exact e_i hf hr hlocks hw rfl ((oc_some o1).trans ((if_pos c4).trans rfl)) dX7_scan_84
    · refine lv_iconst (v := (-1)) hx hb dX7_scan_68 (by decide) ?_
      refine lv_iload_n hx hb dX7_scan_69 rfl (lv_at hl 1 rfl) ?_
      refine lv_isub hx hb dX7_scan_70 ?_
      exact e_i hf hr hlocks hw rfl ((oc_some o1).trans ((if_neg c4).trans rfl)) dX7_scan_71
