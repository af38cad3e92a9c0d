/-! ===== OhmBridge: changes ===== -/
def sp_X7_table (μ : Mu)   : Int32 × Mu :=
  if (μ.1 0 0 : Int32) < 3 then
    ((((sp_X0_record μ  ).1 0 0) + 1) - 1, pM (sp_X0_record μ  ) 0 0 (((sp_X0_record μ  ).1 0 0) + 1))
  else
    ((-2000000003), μ)
set_option maxHeartbeats 4000000 in
set_option maxRecDepth 100000 in
theorem k_X7_table (l : Launch) (E : En) (μ : Mu)   (hK : KOk μ.2.2) : MtI l yX7_table cX7_table 1 .int ({ frames := 4, cells := 0, slots := 0, locals := 104 }) [.ref (E.1 (231))] E μ (sp_X7_table μ ) := by
  refine mt_of (by decide +kernel) (Nat.le_of_ble_eq_true rfl) ?_
  intro p e s m args below meth c ls hf hr hlocks hl hw
  have hx := hf.1
  have hb := hf.2.1
  have hl : lv_has ls 1 [(0, .ref (E.1 (231)))] := hl
  refine lv_aload_n hx hb dX7_table_0 rfl (lv_at hl 0 rfl) ?_
  refine g_f hw hf (by decide) (c_O E _) rfl inlX7 0 (by decide) rfl q23 rfl dX7_table_1 ?_
  refine g_f hw hf (lt_iS (by decide)) (c_iS E _ (by decide)) rfl inlX4 0 (by decide) rfl q108 rfl dX7_table_4 ?_
  refine lv_iconst (v := 3) hx hb dX7_table_7 (by decide) ?_
  refine lv_icmp_lt (tgt := 14) hx hb dX7_table_8 (by decide) (fun c1 => ?_) (fun c1 => ?_)
  · refine lv_aload_n hx hb dX7_table_14 rfl (lv_at hl 0 rfl) ?_
    refine g_f hw hf (by decide) (c_O E _) rfl inlX7 2 (by decide) rfl q28 rfl dX7_table_15 ?_
    refine lv_aload_n hx hb dX7_table_18 rfl (lv_at hl 0 rfl) ?_
    refine g_f hw hf (by decide) (c_O E _) rfl inlX7 0 (by decide) rfl q23 rfl dX7_table_19 ?_
    refine c_v hw (run_V (As := [.ref (E.1 (iS 0))]) (rest := []) (np := 1) hf hw (k_X0_record l E _    hK) ⟨gl_V q392 q393 q394 q27 q395, by decide +kernel⟩ ⟨rfl, rfl, Nat.le_of_ble_eq_true rfl, Nat.le_of_ble_eq_true rfl⟩ (by decide) (c_Hi E _) rfl rfl hl.1 rfl (Nat.le_of_ble_eq_true rfl) dX7_table_22 ⟨Nat.zero_le _, Nat.zero_le _⟩) (fun H locs hw => ?_)
    refine lv_aload_n hx hb dX7_table_25 rfl (lv_at hl 0 rfl) ?_
    refine g_f hw hf (by decide) (c_O E _) rfl inlX7 0 (by decide) rfl q23 rfl dX7_table_26 ?_
    refine lv_dup hx hb dX7_table_29 rfl ?_
    refine g_f hw hf (lt_iS (by decide)) (c_iS E _ (by decide)) rfl inlX4 0 (by decide) rfl q108 rfl dX7_table_30 ?_
    refine lv_iconst (v := 1) hx hb dX7_table_33 (by decide) ?_
    refine lv_iadd hx hb dX7_table_34 ?_
    refine p_f hw hf (lt_iS (by decide)) (c_iS E _ (by decide)) rfl inlX4 tyX4_ok nmX4 0 (by decide) rfl q108 rfl rfl rfl (Nat.le_of_ble_eq_true rfl) (s_S_0 E _ (by decide) _) dX7_table_35 (fun H locs hw => ?_)
    refine lv_aload_n hx hb dX7_table_38 rfl (lv_at hl 0 rfl) ?_
    refine g_f hw hf (by decide) (c_O E _) rfl inlX7 0 (by decide) rfl q23 rfl dX7_table_39 ?_
    refine g_f hw hf (lt_iS (by decide)) (c_iS E _ (by decide)) rfl inlX4 0 (by decide) rfl q108 (congrArg (fun z => some (Value.int z)) (show _ = ((sp_X0_record μ  ).1 0 0) + 1 from (by first | (simp [pM, pJ, upM, upJ, sF, tN, tD, tR, tk_M, tk_K, tk_0, tk_1, tk_2, tk_3, tk_4, tk_5, tk_6, tk_7, tk_8, tk_9, tk_10, tk_o, ms_0_0, ms_0_1, ms_0_2, ms_0_3, ms_0_4, ms_0_5, ms_0_6, ms_0_7, ms_0_8, ms_0_9, ms_0_10, ms_1_0, ms_1_1, ms_1_2, ms_1_3, ms_1_4, ms_1_5, ms_1_6, ms_1_7, ms_1_8, ms_1_9, ms_1_10, ms_w, ms_r, ms_d, ms_M, ms_6, ms_K]; done) | (simp (disch := (first | omega | (simp only [tN, tD, tR, sF]; omega))) only [pM, pJ, upM_s, upM_k, upM_c, upJ_s, upJ_k, upJ_c, tk_M, tk_K, tk_0, tk_1, tk_2, tk_3, tk_4, tk_5, tk_6, tk_7, tk_8, tk_9, tk_10, tk_o, ms_0_0, ms_0_1, ms_0_2, ms_0_3, ms_0_4, ms_0_5, ms_0_6, ms_0_7, ms_0_8, ms_0_9, ms_0_10, ms_1_0, ms_1_1, ms_1_2, ms_1_3, ms_1_4, ms_1_5, ms_1_6, ms_1_7, ms_1_8, ms_1_9, ms_1_10, ms_w, ms_r, ms_d, ms_M, ms_6, ms_K])))) dX7_table_42 ?_
    refine lv_iconst (v := 1) hx hb dX7_table_45 (by decide) ?_
    refine lv_isub hx hb dX7_table_46 ?_
    exact e_i hf hr hlocks hw rfl ((if_pos c1).trans rfl) dX7_table_47
  · refine lv_ldc hx hb hf.2.2.2.1 (hf.2.2.2.2 _ q391) dX7_table_11 ?_
    exact e_i hf hr hlocks hw rfl ((if_neg c1).trans rfl) dX7_table_13
def sp_X7_node (μ : Mu)  (a : Int32) (b : Int32) (w : Int32) : Int32 × Mu :=
  oc (sp_X4_tableAt (μ.1 0)  a) (
    ((-2000000001), μ)) (fun t2 =>
    if (-200000 : Int64) ≤ b.toInt64 ∧ b.toInt64 ≤ 850000 then
      if (1 : Int64) ≤ (w.toInt64) ∧ (w.toInt64) ≤ (10000000 : Int64) then
        if (sp_X4_hasSensorOf (μ.1 0)  a : Int32) = 0 then
          if (sp_X5_mayGoOn (μ.1 0) t2 b w : Int32) = 0 then
            ((-2000000002), μ)
          else
            if (μ.1 0 (tN t2) : Int32) < 12 then
              ((sp_X5_append (sp_X0_record μ  ) 0 t2 b w).1 0 (tN t2), sp_X5_append (sp_X0_record μ  ) 0 t2 b w)
            else
              ((-2000000003), μ)
        else
          ((-2000000002), μ)
      else
        ((-2000000001), μ)
    else
      ((-2000000001), μ))
set_option maxHeartbeats 4000000 in
set_option maxRecDepth 100000 in
theorem k_X7_node (l : Launch) (E : En) (μ : Mu)  (a : Int32) (b : Int32) (w : Int32) (hK : KOk μ.2.2) : MtI l yX7_node cX7_node 5 .int ({ frames := 4, cells := 0, slots := 0, locals := 104 }) [.ref (E.1 (231)), .int (a), .int (b), .int (w)] E μ (sp_X7_node μ a b w) := by
  refine mt_of (by decide +kernel) (Nat.le_of_ble_eq_true rfl) ?_
  intro p e s m args below meth c ls hf hr hlocks hl hw
  have hx := hf.1
  have hb := hf.2.1
  have hl : lv_has ls 5 [(0, .ref (E.1 (231))), (1, .int (a)), (2, .int (b)), (3, .int (w))] := hl
  refine lv_aload_n hx hb dX7_node_0 rfl (lv_at hl 0 rfl) ?_
  refine g_f hw hf (by decide) (c_O E _) rfl inlX7 0 (by decide) rfl q23 rfl dX7_node_1 ?_
  refine lv_iload_n hx hb dX7_node_4 rfl (lv_at hl 1 rfl) ?_
  refine c_q hw (run_V (As := [.int (a)]) (rest := []) (np := 1) hf hw (k_X4_tableAt l E _ (by decide) a  ) ⟨gl_V q121 q122 q123 q22 q124, by decide +kernel⟩ ⟨rfl, rfl, Nat.le_of_ble_eq_true rfl, Nat.le_of_ble_eq_true rfl⟩ (lt_iS (by decide)) (c_iS E _ (by decide)) rfl rfl hl.1 rfl (Nat.le_of_ble_eq_true rfl) dX7_node_5 ⟨Nat.zero_le _, Nat.zero_le _⟩) (fun H locs hw => ?_)
  rcases o1 : sp_X4_tableAt (μ.1 0)  a with _ | t2
  · refine W.eq (g2 := F0 m 8 ls [.null]) rfl ?_
    refine lv_astoreN (lv' := [(4, .null), (0, .ref (E.1 (231))), (1, .int (a)), (2, .int (b)), (3, .int (w))]) hx hb dX7_node_8 hl (by decide) rfl (fun ls hl => ?_)
    refine lv_aloadN hx hb dX7_node_10 (lv_at hl 0 rfl) ?_
    refine lv_ifnullN (tgt := 34) hx hb dX7_node_12 (by decide) ?_
    refine lv_ldc hx hb hf.2.2.2.1 (hf.2.2.2.2 _ q113) dX7_node_34 ?_
    exact e_i hf hr hlocks hw rfl ((oc_none o1).trans rfl) dX7_node_36
  · have ht3 : t2 < 3 := (b_X4_tableAt o1)
    refine W.eq (g2 := F0 m 8 ls [.ref (E.1 (iT 0 t2))]) rfl ?_
    refine lv_astore (lv' := [(4, .ref (E.1 (iT 0 t2))), (0, .ref (E.1 (231))), (1, .int (a)), (2, .int (b)), (3, .int (w))]) hx hb dX7_node_8 hl (by decide) rfl (fun ls hl => ?_)
    refine lv_aload hx hb dX7_node_10 (lv_at hl 0 rfl) ?_
    refine lv_ifnull hx hb dX7_node_12 ?_
    refine lv_iload_n hx hb dX7_node_15 rfl (lv_at hl 3 rfl) ?_
    refine c_iR hw (run_S (As := [.int (b)]) (rest := []) (np := 1) hf hw (kn_X7_isTemperature l E _  b  ) ⟨gl_S q172 q173 q2 q174, by decide +kernel⟩ ⟨rfl, rfl, Nat.le_of_ble_eq_true rfl, Nat.le_of_ble_eq_true rfl⟩ rfl hl.1 rfl (Nat.le_of_ble_eq_true rfl) dX7_node_16 ⟨Nat.zero_le _, Nat.zero_le _⟩) (fun H locs hw => ?_)
    refine lv_if_eq (tgt := 34) hx hb dX7_node_19 (by decide) (fun c4 => ?_) (fun c4 => ?_)
    · replace c4 := (bz_0 _).mp c4
      refine lv_ldc hx hb hf.2.2.2.1 (hf.2.2.2.2 _ q113) dX7_node_34 ?_
      exact e_i hf hr hlocks hw rfl ((oc_some o1).trans ((if_neg c4).trans rfl)) dX7_node_36
    · replace c4 := (bz_n0 _).mp c4
      refine lv_iload_n hx hb dX7_node_22 rfl (lv_at hl 4 rfl) ?_
      refine lv_i2l hx hb dX7_node_23 rfl ?_
      refine lv_lconst (v := 1) hx hb dX7_node_24 (by decide) ?_
      refine lv_ldc2 hx hb hf.2.2.2.1 (hf.2.2.2.2 _ q191) dX7_node_25 ?_
      refine c_iR hw (run_S (As := [.long (w.toInt64), .long (1), .long (10000000)]) (rest := []) (np := 3) hf hw (kn_X7_isWithin l E _  (w.toInt64) (1 : Int64) (10000000 : Int64)  ) ⟨gl_S q114 q115 q2 q116, by decide +kernel⟩ ⟨rfl, rfl, Nat.le_of_ble_eq_true rfl, Nat.le_of_ble_eq_true rfl⟩ rfl hl.1 rfl (Nat.le_of_ble_eq_true rfl) dX7_node_28 ⟨Nat.zero_le _, Nat.zero_le _⟩) (fun H locs hw => ?_)
      refine lv_if_ne (tgt := 37) hx hb dX7_node_31 (by decide) (fun c5 => ?_) (fun c5 => ?_)
      · replace c5 := (bz_n0 _).mp c5
        refine lv_aload_n hx hb dX7_node_37 rfl (lv_at hl 1 rfl) ?_
        refine g_f hw hf (by decide) (c_O E _) rfl inlX7 0 (by decide) rfl q23 rfl dX7_node_38 ?_
        refine lv_iload_n hx hb dX7_node_41 rfl (lv_at hl 2 rfl) ?_
        refine c_iR hw (run_V (As := [.int (a)]) (rest := []) (np := 1) hf hw (k_X4_hasSensorOf l E _ (by decide) a  ) ⟨gl_V q430 q431 q432 q22 q433, by decide +kernel⟩ ⟨rfl, rfl, Nat.le_of_ble_eq_true rfl, Nat.le_of_ble_eq_true rfl⟩ (lt_iS (by decide)) (c_iS E _ (by decide)) rfl rfl hl.1 rfl (Nat.le_of_ble_eq_true rfl) dX7_node_42 ⟨Nat.zero_le _, Nat.zero_le _⟩) (fun H locs hw => ?_)
        refine lv_if_ne (tgt := 58) hx hb dX7_node_45 (by decide) (fun c6 => ?_) (fun c6 => ?_)
        · refine lv_ldc hx hb hf.2.2.2.1 (hf.2.2.2.2 _ q429) dX7_node_58 ?_
          exact e_i hf hr hlocks hw rfl ((oc_some o1).trans ((if_pos c4).trans ((if_pos c5).trans ((if_neg c6).trans rfl)))) dX7_node_60
        · refine lv_aload hx hb dX7_node_48 (lv_at hl 0 rfl) ?_
          refine lv_iload_n hx hb dX7_node_50 rfl (lv_at hl 3 rfl) ?_
          refine lv_iload_n hx hb dX7_node_51 rfl (lv_at hl 4 rfl) ?_
          refine c_iR hw (run_V (As := [.int (b), .int (w)]) (rest := []) (np := 2) hf hw (k_X5_mayGoOn l E _ (by decide) ht3 b w  ) ⟨gl_V q435 q436 q437 q54 q438, by decide +kernel⟩ ⟨rfl, rfl, Nat.le_of_ble_eq_true rfl, Nat.le_of_ble_eq_true rfl⟩ (lt_iT (by decide) ht3) (c_iT E _ (by decide) ht3) rfl rfl hl.1 rfl (Nat.le_of_ble_eq_true rfl) dX7_node_52 ⟨Nat.zero_le _, Nat.zero_le _⟩) (fun H locs hw => ?_)
          refine lv_if_ne (tgt := 61) hx hb dX7_node_55 (by decide) (fun c7 => ?_) (fun c7 => ?_)
          · refine lv_aload hx hb dX7_node_61 (lv_at hl 0 rfl) ?_
            refine g_f hw hf (lt_iT (by decide) ht3) (c_iT E _ (by decide) ht3) rfl inlX5 0 (by decide) rfl q107 rfl dX7_node_63 ?_
            refine lv_bipush (v := 12) hx hb dX7_node_66 (by decide) ?_
            refine lv_icmp_lt (tgt := 74) hx hb dX7_node_68 (by decide) (fun c8 => ?_) (fun c8 => ?_)
            · refine lv_aload_n hx hb dX7_node_74 rfl (lv_at hl 1 rfl) ?_
              refine g_f hw hf (by decide) (c_O E _) rfl inlX7 2 (by decide) rfl q28 rfl dX7_node_75 ?_
              refine lv_aload_n hx hb dX7_node_78 rfl (lv_at hl 1 rfl) ?_
              refine g_f hw hf (by decide) (c_O E _) rfl inlX7 0 (by decide) rfl q23 rfl dX7_node_79 ?_
              refine c_v hw (run_V (As := [.ref (E.1 (iS 0))]) (rest := []) (np := 1) hf hw (k_X0_record l E _    hK) ⟨gl_V q392 q393 q394 q27 q395, by decide +kernel⟩ ⟨rfl, rfl, Nat.le_of_ble_eq_true rfl, Nat.le_of_ble_eq_true rfl⟩ (by decide) (c_Hi E _) rfl rfl hl.1 rfl (Nat.le_of_ble_eq_true rfl) dX7_node_82 ⟨Nat.zero_le _, Nat.zero_le _⟩) (fun H locs hw => ?_)
              refine lv_aload hx hb dX7_node_85 (lv_at hl 0 rfl) ?_
              refine lv_iload_n hx hb dX7_node_87 rfl (lv_at hl 3 rfl) ?_
              refine lv_iload_n hx hb dX7_node_88 rfl (lv_at hl 4 rfl) ?_
              refine c_v hw (run_V (As := [.int (b), .int (w)]) (rest := []) (np := 2) hf hw (k_X5_append l E _ (by decide) ht3 b w  ) ⟨gl_V q439 q440 q441 q54 q442, by decide +kernel⟩ ⟨rfl, rfl, Nat.le_of_ble_eq_true rfl, Nat.le_of_ble_eq_true rfl⟩ (lt_iT (by decide) ht3) (c_iT E _ (by decide) ht3) rfl rfl hl.1 rfl (Nat.le_of_ble_eq_true rfl) dX7_node_89 ⟨Nat.zero_le _, Nat.zero_le _⟩) (fun H locs hw => ?_)
              refine lv_aload hx hb dX7_node_92 (lv_at hl 0 rfl) ?_
              refine g_f hw hf (lt_iT (by decide) ht3) (c_iT E _ (by decide) ht3) rfl inlX5 0 (by decide) rfl q107 rfl dX7_node_94 ?_
              exact e_i hf hr hlocks hw rfl ((oc_some o1).trans ((if_pos c4).trans ((if_pos c5).trans ((if_pos c6).trans ((if_neg c7).trans ((if_pos c8).trans rfl)))))) dX7_node_97
            · refine lv_ldc hx hb hf.2.2.2.1 (hf.2.2.2.2 _ q391) dX7_node_71 ?_
              exact e_i hf hr hlocks hw rfl ((oc_some o1).trans ((if_pos c4).trans ((if_pos c5).trans ((if_pos c6).trans ((if_neg c7).trans ((if_neg c8).trans rfl)))))) dX7_node_73
          · refine lv_ldc hx hb hf.2.2.2.1 (hf.2.2.2.2 _ q429) dX7_node_58 ?_
            exact e_i hf hr hlocks hw rfl ((oc_some o1).trans ((if_pos c4).trans ((if_pos c5).trans ((if_pos c6).trans ((if_pos c7).trans rfl))))) dX7_node_60
      · replace c5 := (bz_0 _).mp c5
        refine lv_ldc hx hb hf.2.2.2.1 (hf.2.2.2.2 _ q113) dX7_node_34 ?_
        exact e_i hf hr hlocks hw rfl ((oc_some o1).trans ((if_pos c4).trans ((if_neg c5).trans rfl))) dX7_node_36
def sp_X7_sensor (μ : Mu)  (a : Int32) (b : Int32) (w : Int32) : Int32 × Mu :=
  oc (sp_X4_tableAt (μ.1 0)  a) (
    ((-2000000001), μ)) (fun t2 =>
    if (2 : Int64) ≤ (b.toInt64) ∧ (b.toInt64) ≤ (4 : Int64) then
      if (1000 : Int64) ≤ (w.toInt64) ∧ (w.toInt64) ≤ 2000000 then
        if (2 : Int32) ≤ μ.1 0 (tN t2) then
          if (μ.1 0 1 : Int32) < 6 then
            oc (sp_X4_sensorAt ((pM (sp_X0_record μ  ) 0 1 (((sp_X0_record μ  ).1 0 1) + 1)).1 0)  ((((sp_X0_record μ  ).1 0 1) + 1) - 1)) (
              ((((sp_X0_record μ  ).1 0 1) + 1) - 1, pM (sp_X0_record μ  ) 0 1 (((sp_X0_record μ  ).1 0 1) + 1))) (fun t9 =>
              (((sp_X3_begin (pM (sp_X0_record μ  ) 0 1 (((sp_X0_record μ  ).1 0 1) + 1)) 0 t9 a b w (sp_X5_nearest ((pM (sp_X0_record μ  ) 0 1 (((sp_X0_record μ  ).1 0 1) + 1)).1 0) t2 (0 : Int32))).1 0 1) - 1, sp_X3_begin (pM (sp_X0_record μ  ) 0 1 (((sp_X0_record μ  ).1 0 1) + 1)) 0 t9 a b w (sp_X5_nearest ((pM (sp_X0_record μ  ) 0 1 (((sp_X0_record μ  ).1 0 1) + 1)).1 0) t2 (0 : Int32))))
          else
            ((-2000000003), μ)
        else
          ((-2000000002), μ)
      else
        ((-2000000001), μ)
    else
      ((-2000000001), μ))
set_option maxHeartbeats 4000000 in
set_option maxRecDepth 100000 in
theorem k_X7_sensor (l : Launch) (E : En) (μ : Mu)  (a : Int32) (b : Int32) (w : Int32) (hK : KOk μ.2.2) : MtI l yX7_sensor cX7_sensor 6 .int ({ frames := 4, cells := 0, slots := 0, locals := 104 }) [.ref (E.1 (231)), .int (a), .int (b), .int (w)] E μ (sp_X7_sensor μ a b w) := by
  refine mt_of (by decide +kernel) (Nat.le_of_ble_eq_true rfl) ?_
  intro p e s m args below meth c ls hf hr hlocks hl hw
  have hx := hf.1
  have hb := hf.2.1
  have hl : lv_has ls 6 [(0, .ref (E.1 (231))), (1, .int (a)), (2, .int (b)), (3, .int (w))] := hl
  refine lv_aload_n hx hb dX7_sensor_0 rfl (lv_at hl 0 rfl) ?_
  refine g_f hw hf (by decide) (c_O E _) rfl inlX7 0 (by decide) rfl q23 rfl dX7_sensor_1 ?_
  refine lv_iload_n hx hb dX7_sensor_4 rfl (lv_at hl 1 rfl) ?_
  refine c_q hw (run_V (As := [.int (a)]) (rest := []) (np := 1) hf hw (k_X4_tableAt l E _ (by decide) a  ) ⟨gl_V q121 q122 q123 q22 q124, by decide +kernel⟩ ⟨rfl, rfl, Nat.le_of_ble_eq_true rfl, Nat.le_of_ble_eq_true rfl⟩ (lt_iS (by decide)) (c_iS E _ (by decide)) rfl rfl hl.1 rfl (Nat.le_of_ble_eq_true rfl) dX7_sensor_5 ⟨Nat.zero_le _, Nat.zero_le _⟩) (fun H locs hw => ?_)
  rcases o1 : sp_X4_tableAt (μ.1 0)  a with _ | t2
  · refine W.eq (g2 := F0 m 8 ls [.null]) rfl ?_
    refine lv_astoreN (lv' := [(4, .null), (0, .ref (E.1 (231))), (1, .int (a)), (2, .int (b)), (3, .int (w))]) hx hb dX7_sensor_8 hl (by decide) rfl (fun ls hl => ?_)
    refine lv_aloadN hx hb dX7_sensor_10 (lv_at hl 0 rfl) ?_
    refine lv_ifnullN (tgt := 37) hx hb dX7_sensor_12 (by decide) ?_
    refine lv_ldc hx hb hf.2.2.2.1 (hf.2.2.2.2 _ q113) dX7_sensor_37 ?_
    exact e_i hf hr hlocks hw rfl ((oc_none o1).trans rfl) dX7_sensor_39
  · have ht3 : t2 < 3 := (b_X4_tableAt o1)
    refine W.eq (g2 := F0 m 8 ls [.ref (E.1 (iT 0 t2))]) rfl ?_
    refine lv_astore (lv' := [(4, .ref (E.1 (iT 0 t2))), (0, .ref (E.1 (231))), (1, .int (a)), (2, .int (b)), (3, .int (w))]) hx hb dX7_sensor_8 hl (by decide) rfl (fun ls hl => ?_)
    refine lv_aload hx hb dX7_sensor_10 (lv_at hl 0 rfl) ?_
    refine lv_ifnull hx hb dX7_sensor_12 ?_
    refine lv_iload_n hx hb dX7_sensor_15 rfl (lv_at hl 3 rfl) ?_
    refine lv_i2l hx hb dX7_sensor_16 rfl ?_
    refine lv_ldc2 hx hb hf.2.2.2.1 (hf.2.2.2.2 _ q357) dX7_sensor_17 ?_
    refine lv_ldc2 hx hb hf.2.2.2.1 (hf.2.2.2.2 _ q447) dX7_sensor_20 ?_
    refine c_iR hw (run_S (As := [.long (b.toInt64), .long (2), .long (4)]) (rest := []) (np := 3) hf hw (kn_X7_isWithin l E _  (b.toInt64) (2 : Int64) (4 : Int64)  ) ⟨gl_S q114 q115 q2 q116, by decide +kernel⟩ ⟨rfl, rfl, Nat.le_of_ble_eq_true rfl, Nat.le_of_ble_eq_true rfl⟩ rfl hl.1 rfl (Nat.le_of_ble_eq_true rfl) dX7_sensor_23 ⟨Nat.zero_le _, Nat.zero_le _⟩) (fun H locs hw => ?_)
    refine lv_if_eq (tgt := 37) hx hb dX7_sensor_26 (by decide) (fun c4 => ?_) (fun c4 => ?_)
    · replace c4 := (bz_0 _).mp c4
      refine lv_ldc hx hb hf.2.2.2.1 (hf.2.2.2.2 _ q113) dX7_sensor_37 ?_
      exact e_i hf hr hlocks hw rfl ((oc_some o1).trans ((if_neg c4).trans rfl)) dX7_sensor_39
    · replace c4 := (bz_n0 _).mp c4
      refine lv_iload_n hx hb dX7_sensor_29 rfl (lv_at hl 4 rfl) ?_
      refine lv_i2l hx hb dX7_sensor_30 rfl ?_
      refine c_iR hw (run_S (As := [.long (w.toInt64)]) (rest := []) (np := 1) hf hw (kn_X7_isBase l E _  (w.toInt64)  ) ⟨gl_S q448 q449 q2 q450, by decide +kernel⟩ ⟨rfl, rfl, Nat.le_of_ble_eq_true rfl, Nat.le_of_ble_eq_true rfl⟩ rfl hl.1 rfl (Nat.le_of_ble_eq_true rfl) dX7_sensor_31 ⟨Nat.zero_le _, Nat.zero_le _⟩) (fun H locs hw => ?_)
      refine lv_if_ne (tgt := 40) hx hb dX7_sensor_34 (by decide) (fun c5 => ?_) (fun c5 => ?_)
      · replace c5 := (bz_n0 _).mp c5
        refine lv_aload hx hb dX7_sensor_40 (lv_at hl 0 rfl) ?_
        refine g_f hw hf (lt_iT (by decide) ht3) (c_iT E _ (by decide) ht3) rfl inlX5 0 (by decide) rfl q107 rfl dX7_sensor_42 ?_
        refine lv_iconst (v := 2) hx hb dX7_sensor_45 (by decide) ?_
        refine lv_icmp_ge (tgt := 52) hx hb dX7_sensor_46 (by decide) (fun c6 => ?_) (fun c6 => ?_)
        · refine lv_aload_n hx hb dX7_sensor_52 rfl (lv_at hl 1 rfl) ?_
          refine g_f hw hf (by decide) (c_O E _) rfl inlX7 0 (by decide) rfl q23 rfl dX7_sensor_53 ?_
          refine g_f hw hf (lt_iS (by decide)) (c_iS E _ (by decide)) rfl inlX4 1 (by decide) rfl q109 rfl dX7_sensor_56 ?_
          refine lv_bipush (v := 6) hx hb dX7_sensor_59 (by decide) ?_
          refine lv_icmp_lt (tgt := 67) hx hb dX7_sensor_61 (by decide) (fun c7 => ?_) (fun c7 => ?_)
          · refine lv_aload_n hx hb dX7_sensor_67 rfl (lv_at hl 1 rfl) ?_
            refine g_f hw hf (by decide) (c_O E _) rfl inlX7 2 (by decide) rfl q28 rfl dX7_sensor_68 ?_
            refine lv_aload_n hx hb dX7_sensor_71 rfl (lv_at hl 1 rfl) ?_
            refine g_f hw hf (by decide) (c_O E _) rfl inlX7 0 (by decide) rfl q23 rfl dX7_sensor_72 ?_
            refine c_v hw (run_V (As := [.ref (E.1 (iS 0))]) (rest := []) (np := 1) hf hw (k_X0_record l E _    hK) ⟨gl_V q392 q393 q394 q27 q395, by decide +kernel⟩ ⟨rfl, rfl, Nat.le_of_ble_eq_true rfl, Nat.le_of_ble_eq_true rfl⟩ (by decide) (c_Hi E _) rfl rfl hl.1 rfl (Nat.le_of_ble_eq_true rfl) dX7_sensor_75 ⟨Nat.zero_le _, Nat.zero_le _⟩) (fun H locs hw => ?_)
            refine lv_aload_n hx hb dX7_sensor_78 rfl (lv_at hl 1 rfl) ?_
            refine g_f hw hf (by decide) (c_O E _) rfl inlX7 0 (by decide) rfl q23 rfl dX7_sensor_79 ?_
            refine lv_dup hx hb dX7_sensor_82 rfl ?_
            refine g_f hw hf (lt_iS (by decide)) (c_iS E _ (by decide)) rfl inlX4 1 (by decide) rfl q109 rfl dX7_sensor_83 ?_
            refine lv_iconst (v := 1) hx hb dX7_sensor_86 (by decide) ?_
            refine lv_iadd hx hb dX7_sensor_87 ?_
            refine p_f hw hf (lt_iS (by decide)) (c_iS E _ (by decide)) rfl inlX4 tyX4_ok nmX4 1 (by decide) rfl q109 rfl rfl rfl (Nat.le_of_ble_eq_true rfl) (s_S_1 E _ (by decide) _) dX7_sensor_88 (fun H locs hw => ?_)
            refine lv_aload_n hx hb dX7_sensor_91 rfl (lv_at hl 1 rfl) ?_
            refine g_f hw hf (by decide) (c_O E _) rfl inlX7 0 (by decide) rfl q23 rfl dX7_sensor_92 ?_
            refine lv_aload_n hx hb dX7_sensor_95 rfl (lv_at hl 1 rfl) ?_
            refine g_f hw hf (by decide) (c_O E _) rfl inlX7 0 (by decide) rfl q23 rfl dX7_sensor_96 ?_
            refine g_f hw hf (lt_iS (by decide)) (c_iS E _ (by decide)) rfl inlX4 1 (by decide) rfl q109 (congrArg (fun z => some (Value.int z)) (show _ = ((sp_X0_record μ  ).1 0 1) + 1 from (by first | (simp [pM, pJ, upM, upJ, sF, tN, tD, tR, tk_M, tk_K, tk_0, tk_1, tk_2, tk_3, tk_4, tk_5, tk_6, tk_7, tk_8, tk_9, tk_10, tk_o, ms_0_0, ms_0_1, ms_0_2, ms_0_3, ms_0_4, ms_0_5, ms_0_6, ms_0_7, ms_0_8, ms_0_9, ms_0_10, ms_1_0, ms_1_1, ms_1_2, ms_1_3, ms_1_4, ms_1_5, ms_1_6, ms_1_7, ms_1_8, ms_1_9, ms_1_10, ms_w, ms_r, ms_d, ms_M, ms_6, ms_K]; done) | (simp (disch := (first | omega | (simp only [tN, tD, tR, sF]; omega))) only [pM, pJ, upM_s, upM_k, upM_c, upJ_s, upJ_k, upJ_c, tk_M, tk_K, tk_0, tk_1, tk_2, tk_3, tk_4, tk_5, tk_6, tk_7, tk_8, tk_9, tk_10, tk_o, ms_0_0, ms_0_1, ms_0_2, ms_0_3, ms_0_4, ms_0_5, ms_0_6, ms_0_7, ms_0_8, ms_0_9, ms_0_10, ms_1_0, ms_1_1, ms_1_2, ms_1_3, ms_1_4, ms_1_5, ms_1_6, ms_1_7, ms_1_8, ms_1_9, ms_1_10, ms_w, ms_r, ms_d, ms_M, ms_6, ms_K])))) dX7_sensor_99 ?_
            refine lv_iconst (v := 1) hx hb dX7_sensor_102 (by decide) ?_
            refine lv_isub hx hb dX7_sensor_103 ?_
            refine c_q hw (run_V (As := [.int ((((sp_X0_record μ  ).1 0 1) + 1) - 1)]) (rest := []) (np := 1) hf hw (k_X4_sensorAt l E _ (by decide) ((((sp_X0_record μ  ).1 0 1) + 1) - 1)  ) ⟨gl_V q220 q221 q222 q22 q223, by decide +kernel⟩ ⟨rfl, rfl, Nat.le_of_ble_eq_true rfl, Nat.le_of_ble_eq_true rfl⟩ (lt_iS (by decide)) (c_iS E _ (by decide)) rfl rfl hl.1 rfl (Nat.le_of_ble_eq_true rfl) dX7_sensor_104 ⟨Nat.zero_le _, Nat.zero_le _⟩) (fun H locs hw => ?_)
            refine W.eq (g2 := F0 m 107 ls [va_rf (Option.map E.1 (Option.map (iN 0) (sp_X4_sensorAt ((pM (sp_X0_record μ  ) 0 1 (((sp_X0_record μ  ).1 0 1) + 1)).1 0)  ((((sp_X0_record μ  ).1 0 1) + 1) - 1))))]) (by first | rfl | (simp [pM, pJ, upM_r, tk_M, tk_K, tk_0, tk_1, tk_2, tk_3, tk_4, tk_5, tk_6, tk_7, tk_8, tk_9, tk_10, tk_o, ms_0_0, ms_0_1, ms_0_2, ms_0_3, ms_0_4, ms_0_5, ms_0_6, ms_0_7, ms_0_8, ms_0_9, ms_0_10, ms_1_0, ms_1_1, ms_1_2, ms_1_3, ms_1_4, ms_1_5, ms_1_6, ms_1_7, ms_1_8, ms_1_9, ms_1_10, ms_w, ms_r, ms_d, ms_M, ms_6, ms_K]; done)) ?_
            rcases o8 : sp_X4_sensorAt ((pM (sp_X0_record μ  ) 0 1 (((sp_X0_record μ  ).1 0 1) + 1)).1 0)  ((((sp_X0_record μ  ).1 0 1) + 1) - 1) with _ | t9
            · refine W.eq (g2 := F0 m 107 ls [.null]) rfl ?_
              refine lv_astoreN (lv' := [(5, .null), (4, .ref (E.1 (iT 0 t2))), (0, .ref (E.1 (231))), (1, .int (a)), (2, .int (b)), (3, .int (w))]) hx hb dX7_sensor_107 hl (by decide) rfl (fun ls hl => ?_)
              refine lv_aloadN hx hb dX7_sensor_109 (lv_at hl 0 rfl) ?_
              refine lv_ifnullN (tgt := 128) hx hb dX7_sensor_111 (by decide) ?_
              refine lv_aload_n hx hb dX7_sensor_128 rfl (lv_at hl 2 rfl) ?_
              refine g_f hw hf (by decide) (c_O E _) rfl inlX7 0 (by decide) rfl q23 rfl dX7_sensor_129 ?_
              refine g_f hw hf (lt_iS (by decide)) (c_iS E _ (by decide)) rfl inlX4 1 (by decide) rfl q109 (congrArg (fun z => some (Value.int z)) (show _ = ((sp_X0_record μ  ).1 0 1) + 1 from (by first | (simp [pM, pJ, upM, upJ, sF, tN, tD, tR, tk_M, tk_K, tk_0, tk_1, tk_2, tk_3, tk_4, tk_5, tk_6, tk_7, tk_8, tk_9, tk_10, tk_o, ms_0_0, ms_0_1, ms_0_2, ms_0_3, ms_0_4, ms_0_5, ms_0_6, ms_0_7, ms_0_8, ms_0_9, ms_0_10, ms_1_0, ms_1_1, ms_1_2, ms_1_3, ms_1_4, ms_1_5, ms_1_6, ms_1_7, ms_1_8, ms_1_9, ms_1_10, ms_w, ms_r, ms_d, ms_M, ms_6, ms_K]; done) | (simp (disch := (first | omega | (simp only [tN, tD, tR, sF]; omega))) only [pM, pJ, upM_s, upM_k, upM_c, upJ_s, upJ_k, upJ_c, tk_M, tk_K, tk_0, tk_1, tk_2, tk_3, tk_4, tk_5, tk_6, tk_7, tk_8, tk_9, tk_10, tk_o, ms_0_0, ms_0_1, ms_0_2, ms_0_3, ms_0_4, ms_0_5, ms_0_6, ms_0_7, ms_0_8, ms_0_9, ms_0_10, ms_1_0, ms_1_1, ms_1_2, ms_1_3, ms_1_4, ms_1_5, ms_1_6, ms_1_7, ms_1_8, ms_1_9, ms_1_10, ms_w, ms_r, ms_d, ms_M, ms_6, ms_K])))) dX7_sensor_132 ?_
              refine lv_iconst (v := 1) hx hb dX7_sensor_135 (by decide) ?_
              refine lv_isub hx hb dX7_sensor_136 ?_
              exact e_i hf hr hlocks hw rfl ((oc_some o1).trans ((if_pos c4).trans ((if_pos c5).trans ((if_pos c6).trans ((if_pos c7).trans ((oc_none o8).trans rfl)))))) dX7_sensor_137
            · have ht10 : t9 < 6 := (b_X4_sensorAt o8)
              refine W.eq (g2 := F0 m 107 ls [.ref (E.1 (iN 0 t9))]) rfl ?_
              refine lv_astore (lv' := [(5, .ref (E.1 (iN 0 t9))), (4, .ref (E.1 (iT 0 t2))), (0, .ref (E.1 (231))), (1, .int (a)), (2, .int (b)), (3, .int (w))]) hx hb dX7_sensor_107 hl (by decide) rfl (fun ls hl => ?_)
              refine lv_aload hx hb dX7_sensor_109 (lv_at hl 0 rfl) ?_
              refine lv_ifnull hx hb dX7_sensor_111 ?_
              refine lv_aload hx hb dX7_sensor_114 (lv_at hl 0 rfl) ?_
              refine lv_iload_n hx hb dX7_sensor_116 rfl (lv_at hl 3 rfl) ?_
              refine lv_iload_n hx hb dX7_sensor_117 rfl (lv_at hl 4 rfl) ?_
              refine lv_iload_n hx hb dX7_sensor_118 rfl (lv_at hl 5 rfl) ?_
              refine lv_aload hx hb dX7_sensor_119 (lv_at hl 1 rfl) ?_
              refine lv_iconst (v := 0) hx hb dX7_sensor_121 (by decide) ?_
              refine c_iR hw (run_V (As := [.int 0]) (rest := [.int (w), .int (b), .int (a), .ref (E.1 (iN 0 t9))]) (np := 1) hf hw (k_X5_nearest l E _ (by decide) ht3 (0 : Int32)  ) ⟨gl_V q453 q454 q455 q54 q456, by decide +kernel⟩ ⟨rfl, rfl, Nat.le_of_ble_eq_true rfl, Nat.le_of_ble_eq_true rfl⟩ (lt_iT (by decide) ht3) (c_iT E _ (by decide) ht3) rfl rfl hl.1 rfl (Nat.le_of_ble_eq_true rfl) dX7_sensor_122 ⟨Nat.zero_le _, Nat.zero_le _⟩) (fun H locs hw => ?_)
              refine fold_i (y := sp_X5_nearest ((pM (sp_X0_record μ  ) 0 1 (((sp_X0_record μ  ).1 0 1) + 1)).1 0) t2 (0 : Int32)) (by first | rfl | (simp [pM, pJ, upM_r, tk_M, tk_K, tk_0, tk_1, tk_2, tk_3, tk_4, tk_5, tk_6, tk_7, tk_8, tk_9, tk_10, tk_o, ms_0_0, ms_0_1, ms_0_2, ms_0_3, ms_0_4, ms_0_5, ms_0_6, ms_0_7, ms_0_8, ms_0_9, ms_0_10, ms_1_0, ms_1_1, ms_1_2, ms_1_3, ms_1_4, ms_1_5, ms_1_6, ms_1_7, ms_1_8, ms_1_9, ms_1_10, ms_w, ms_r, ms_d, ms_M, ms_6, ms_K]; done)) ?_
              refine c_v hw (run_V (As := [.int (a), .int (b), .int (w), .int (sp_X5_nearest ((pM (sp_X0_record μ  ) 0 1 (((sp_X0_record μ  ).1 0 1) + 1)).1 0) t2 (0 : Int32))]) (rest := []) (np := 4) hf hw (k_X3_begin l E _ (by decide) ht10 a b w (sp_X5_nearest ((pM (sp_X0_record μ  ) 0 1 (((sp_X0_record μ  ).1 0 1) + 1)).1 0) t2 (0 : Int32))  ) ⟨gl_V q463 q464 q465 q56 q466, by decide +kernel⟩ ⟨rfl, rfl, Nat.le_of_ble_eq_true rfl, Nat.le_of_ble_eq_true rfl⟩ (lt_iN (by decide) ht10) (c_iN E _ (by decide) ht10) rfl rfl hl.1 rfl (Nat.le_of_ble_eq_true rfl) dX7_sensor_125 ⟨Nat.zero_le _, Nat.zero_le _⟩) (fun H locs hw => ?_)
              refine lv_aload_n hx hb dX7_sensor_128 rfl (lv_at hl 2 rfl) ?_
              refine g_f hw hf (by decide) (c_O E _) rfl inlX7 0 (by decide) rfl q23 rfl dX7_sensor_129 ?_
              refine g_f hw hf (lt_iS (by decide)) (c_iS E _ (by decide)) rfl inlX4 1 (by decide) rfl q109 rfl dX7_sensor_132 ?_
              refine lv_iconst (v := 1) hx hb dX7_sensor_135 (by decide) ?_
              refine lv_isub hx hb dX7_sensor_136 ?_
              exact e_i hf hr hlocks hw rfl ((oc_some o1).trans ((if_pos c4).trans ((if_pos c5).trans ((if_pos c6).trans ((if_pos c7).trans ((oc_some o8).trans rfl)))))) dX7_sensor_137
          · refine lv_ldc hx hb hf.2.2.2.1 (hf.2.2.2.2 _ q391) dX7_sensor_64 ?_
            exact e_i hf hr hlocks hw rfl ((oc_some o1).trans ((if_pos c4).trans ((if_pos c5).trans ((if_pos c6).trans ((if_neg c7).trans rfl))))) dX7_sensor_66
        · refine lv_ldc hx hb hf.2.2.2.1 (hf.2.2.2.2 _ q429) dX7_sensor_49 ?_
          exact e_i hf hr hlocks hw rfl ((oc_some o1).trans ((if_pos c4).trans ((if_pos c5).trans ((if_neg c6).trans rfl)))) dX7_sensor_51
      · replace c5 := (bz_0 _).mp c5
        refine lv_ldc hx hb hf.2.2.2.1 (hf.2.2.2.2 _ q113) dX7_sensor_37 ?_
        exact e_i hf hr hlocks hw rfl ((oc_some o1).trans ((if_pos c4).trans ((if_neg c5).trans rfl))) dX7_sensor_39
def sp_X7_plug (μ : Mu)  (a : Int32) (b : Int32) (w : Int32) : Int32 × Mu :=
  oc (sp_X4_sensorAt (μ.1 0)  a) (
    ((-2000000001), μ)) (fun t2 =>
    if ((0 : Int64) ≤ b.toInt64 ∧ b.toInt64 ≤ 3) ∧ (0 : Int64) ≤ w.toInt64 ∧ w.toInt64 ≤ 2 then
      if ¬ (μ.1 0 (sF t2 6)) = -1 then
        ((-2000000002), μ)
      else
        if (sp_X4_sensorIn (μ.1 0)  ((b * 3) + w) : Int32) = (-1) then
          if b = 3 ∨ (μ.1 0 (sF t2 1)) = 2 + b then
            (sp_X4_takenSlots ((pM (sp_X0_record μ  ) 0 (sF t2 6) ((b * 3) + w)).1 0)  b, pM (sp_X0_record μ  ) 0 (sF t2 6) ((b * 3) + w))
          else
            ((-2000000002), μ)
        else
          ((-2000000002), μ)
    else
      ((-2000000001), μ))
set_option maxHeartbeats 4000000 in
set_option maxRecDepth 100000 in
theorem k_X7_plug (l : Launch) (E : En) (μ : Mu)  (a : Int32) (b : Int32) (w : Int32) (hK : KOk μ.2.2) : MtI l yX7_plug cX7_plug 6 .int ({ frames := 4, cells := 0, slots := 0, locals := 104 }) [.ref (E.1 (231)), .int (a), .int (b), .int (w)] E μ (sp_X7_plug μ a b w) := by
  refine mt_of (by decide +kernel) (Nat.le_of_ble_eq_true rfl) ?_
  intro p e s m args below meth c ls hf hr hlocks hl hw
  have hx := hf.1
  have hb := hf.2.1
  have hl : lv_has ls 6 [(0, .ref (E.1 (231))), (1, .int (a)), (2, .int (b)), (3, .int (w))] := hl
  refine lv_aload_n hx hb dX7_plug_0 rfl (lv_at hl 0 rfl) ?_
  refine g_f hw hf (by decide) (c_O E _) rfl inlX7 0 (by decide) rfl q23 rfl dX7_plug_1 ?_
  refine lv_iload_n hx hb dX7_plug_4 rfl (lv_at hl 1 rfl) ?_
  refine c_q hw (run_V (As := [.int (a)]) (rest := []) (np := 1) hf hw (k_X4_sensorAt l E _ (by decide) a  ) ⟨gl_V q220 q221 q222 q22 q223, by decide +kernel⟩ ⟨rfl, rfl, Nat.le_of_ble_eq_true rfl, Nat.le_of_ble_eq_true rfl⟩ (lt_iS (by decide)) (c_iS E _ (by decide)) rfl rfl hl.1 rfl (Nat.le_of_ble_eq_true rfl) dX7_plug_5 ⟨Nat.zero_le _, Nat.zero_le _⟩) (fun H locs hw => ?_)
  rcases o1 : sp_X4_sensorAt (μ.1 0)  a with _ | t2
  · refine W.eq (g2 := F0 m 8 ls [.null]) rfl ?_
    refine lv_astoreN (lv' := [(4, .null), (0, .ref (E.1 (231))), (1, .int (a)), (2, .int (b)), (3, .int (w))]) hx hb dX7_plug_8 hl (by decide) rfl (fun ls hl => ?_)
    refine lv_aloadN hx hb dX7_plug_10 (lv_at hl 0 rfl) ?_
    refine lv_ifnullN (tgt := 23) hx hb dX7_plug_12 (by decide) ?_
    refine lv_ldc hx hb hf.2.2.2.1 (hf.2.2.2.2 _ q113) dX7_plug_23 ?_
    exact e_i hf hr hlocks hw rfl ((oc_none o1).trans rfl) dX7_plug_25
  · have ht3 : t2 < 6 := (b_X4_sensorAt o1)
    refine W.eq (g2 := F0 m 8 ls [.ref (E.1 (iN 0 t2))]) rfl ?_
    refine lv_astore (lv' := [(4, .ref (E.1 (iN 0 t2))), (0, .ref (E.1 (231))), (1, .int (a)), (2, .int (b)), (3, .int (w))]) hx hb dX7_plug_8 hl (by decide) rfl (fun ls hl => ?_)
    refine lv_aload hx hb dX7_plug_10 (lv_at hl 0 rfl) ?_
    refine lv_ifnull hx hb dX7_plug_12 ?_
    refine lv_iload_n hx hb dX7_plug_15 rfl (lv_at hl 3 rfl) ?_
    refine lv_iload_n hx hb dX7_plug_16 rfl (lv_at hl 4 rfl) ?_
    refine c_iR hw (run_S (As := [.int (b), .int (w)]) (rest := []) (np := 2) hf hw (kn_X7_isSlot l E _  b w  ) ⟨gl_S q353 q354 q2 q355, by decide +kernel⟩ ⟨rfl, rfl, Nat.le_of_ble_eq_true rfl, Nat.le_of_ble_eq_true rfl⟩ rfl hl.1 rfl (Nat.le_of_ble_eq_true rfl) dX7_plug_17 ⟨Nat.zero_le _, Nat.zero_le _⟩) (fun H locs hw => ?_)
    refine lv_if_ne (tgt := 26) hx hb dX7_plug_20 (by decide) (fun c4 => ?_) (fun c4 => ?_)
    · replace c4 := (bz_n0 _).mp c4
      refine lv_iload_n hx hb dX7_plug_26 rfl (lv_at hl 3 rfl) ?_
      refine lv_iconst (v := 3) hx hb dX7_plug_27 (by decide) ?_
      refine lv_imul hx hb dX7_plug_28 ?_
      refine lv_iload_n hx hb dX7_plug_29 rfl (lv_at hl 4 rfl) ?_
      refine lv_iadd hx hb dX7_plug_30 ?_
      refine lv_istore (lv' := [(5, .int ((b * 3) + w)), (4, .ref (E.1 (iN 0 t2))), (0, .ref (E.1 (231))), (1, .int (a)), (2, .int (b)), (3, .int (w))]) hx hb dX7_plug_31 hl (by decide) rfl (fun ls hl => ?_)
      refine lv_aload hx hb dX7_plug_33 (lv_at hl 1 rfl) ?_
      refine c_iR hw (run_V (As := []) (rest := []) (np := 0) hf hw (kn_X3_isPlugged l E _ (by decide) ht3   ) ⟨gl_V q237 q238 q239 q56 q240, by decide +kernel⟩ ⟨rfl, rfl, Nat.le_of_ble_eq_true rfl, Nat.le_of_ble_eq_true rfl⟩ (lt_iN (by decide) ht3) (c_iN E _ (by decide) ht3) rfl rfl hl.1 rfl (Nat.le_of_ble_eq_true rfl) dX7_plug_35 ⟨Nat.zero_le _, Nat.zero_le _⟩) (fun H locs hw => ?_)
      refine lv_if_ne (tgt := 63) hx hb dX7_plug_38 (by decide) (fun c5 => ?_) (fun c5 => ?_)
      · replace c5 := (bz_n0 _).mp c5
        refine lv_ldc hx hb hf.2.2.2.1 (hf.2.2.2.2 _ q429) dX7_plug_63 ?_
        exact e_i hf hr hlocks hw rfl ((oc_some o1).trans ((if_pos c4).trans ((if_pos c5).trans rfl))) dX7_plug_65
      · replace c5 := (bz_0 _).mp c5
        refine lv_aload_n hx hb dX7_plug_41 rfl (lv_at hl 2 rfl) ?_
        refine g_f hw hf (by decide) (c_O E _) rfl inlX7 0 (by decide) rfl q23 rfl dX7_plug_42 ?_
        refine lv_iload hx hb dX7_plug_45 (lv_at hl 0 rfl) ?_
        refine c_iR hw (run_V (As := [.int ((b * 3) + w)]) (rest := []) (np := 1) hf hw (k_X4_sensorIn l E _ (by decide) ((b * 3) + w)  ) ⟨gl_V q358 q135 q136 q22 q137, by decide +kernel⟩ ⟨rfl, rfl, Nat.le_of_ble_eq_true rfl, Nat.le_of_ble_eq_true rfl⟩ (lt_iS (by decide)) (c_iS E _ (by decide)) rfl rfl hl.1 rfl (Nat.le_of_ble_eq_true rfl) dX7_plug_47 ⟨Nat.zero_le _, Nat.zero_le _⟩) (fun H locs hw => ?_)
        refine lv_iconst (v := (-1)) hx hb dX7_plug_50 (by decide) ?_
        refine lv_icmp_ne (tgt := 63) hx hb dX7_plug_51 (by decide) (fun c6 => ?_) (fun c6 => ?_)
        · refine lv_ldc hx hb hf.2.2.2.1 (hf.2.2.2.2 _ q429) dX7_plug_63 ?_
          exact e_i hf hr hlocks hw rfl ((oc_some o1).trans ((if_pos c4).trans ((if_neg c5).trans ((if_neg c6).trans rfl)))) dX7_plug_65
        · refine lv_aload hx hb dX7_plug_54 (lv_at hl 1 rfl) ?_
          refine lv_iload_n hx hb dX7_plug_56 rfl (lv_at hl 4 rfl) ?_
          refine c_iR hw (run_V (As := [.int (b)]) (rest := []) (np := 1) hf hw (kn_X3_fits l E _ (by decide) ht3 b  ) ⟨gl_V q477 q478 q479 q56 q480, by decide +kernel⟩ ⟨rfl, rfl, Nat.le_of_ble_eq_true rfl, Nat.le_of_ble_eq_true rfl⟩ (lt_iN (by decide) ht3) (c_iN E _ (by decide) ht3) rfl rfl hl.1 rfl (Nat.le_of_ble_eq_true rfl) dX7_plug_57 ⟨Nat.zero_le _, Nat.zero_le _⟩) (fun H locs hw => ?_)
          refine lv_if_ne (tgt := 66) hx hb dX7_plug_60 (by decide) (fun c7 => ?_) (fun c7 => ?_)
          · replace c7 := (bz_n0 _).mp c7
            refine lv_aload_n hx hb dX7_plug_66 rfl (lv_at hl 2 rfl) ?_
            refine g_f hw hf (by decide) (c_O E _) rfl inlX7 2 (by decide) rfl q28 rfl dX7_plug_67 ?_
            refine lv_aload_n hx hb dX7_plug_70 rfl (lv_at hl 2 rfl) ?_
            refine g_f hw hf (by decide) (c_O E _) rfl inlX7 0 (by decide) rfl q23 rfl dX7_plug_71 ?_
            refine c_v hw (run_V (As := [.ref (E.1 (iS 0))]) (rest := []) (np := 1) hf hw (k_X0_record l E _    hK) ⟨gl_V q392 q393 q394 q27 q395, by decide +kernel⟩ ⟨rfl, rfl, Nat.le_of_ble_eq_true rfl, Nat.le_of_ble_eq_true rfl⟩ (by decide) (c_Hi E _) rfl rfl hl.1 rfl (Nat.le_of_ble_eq_true rfl) dX7_plug_74 ⟨Nat.zero_le _, Nat.zero_le _⟩) (fun H locs hw => ?_)
            refine lv_aload hx hb dX7_plug_77 (lv_at hl 1 rfl) ?_
            refine lv_iload hx hb dX7_plug_79 (lv_at hl 0 rfl) ?_
            refine p_f hw hf (lt_iN (by decide) ht3) (c_iN E _ (by decide) ht3) rfl inlX3 tyX3_ok nmX3 6 (by decide) rfl q214 rfl rfl rfl (Nat.le_of_ble_eq_true rfl) (s_N_6 E _ (by decide) ht3 _) dX7_plug_81 (fun H locs hw => ?_)
            refine lv_aload_n hx hb dX7_plug_84 rfl (lv_at hl 2 rfl) ?_
            refine g_f hw hf (by decide) (c_O E _) rfl inlX7 0 (by decide) rfl q23 rfl dX7_plug_85 ?_
            refine lv_iload_n hx hb dX7_plug_88 rfl (lv_at hl 4 rfl) ?_
            refine c_iR hw (run_V (As := [.int (b)]) (rest := []) (np := 1) hf hw (k_X4_takenSlots l E _ (by decide) b  ) ⟨gl_V q481 q131 q132 q22 q133, by decide +kernel⟩ ⟨rfl, rfl, Nat.le_of_ble_eq_true rfl, Nat.le_of_ble_eq_true rfl⟩ (lt_iS (by decide)) (c_iS E _ (by decide)) rfl rfl hl.1 rfl (Nat.le_of_ble_eq_true rfl) dX7_plug_89 ⟨Nat.zero_le _, Nat.zero_le _⟩) (fun H locs hw => ?_)
            refine fold_i (y := sp_X4_takenSlots ((pM (sp_X0_record μ  ) 0 (sF t2 6) ((b * 3) + w)).1 0)  b) (by first | rfl | (simp [pM, pJ, upM_r, tk_M, tk_K, tk_0, tk_1, tk_2, tk_3, tk_4, tk_5, tk_6, tk_7, tk_8, tk_9, tk_10, tk_o, ms_0_0, ms_0_1, ms_0_2, ms_0_3, ms_0_4, ms_0_5, ms_0_6, ms_0_7, ms_0_8, ms_0_9, ms_0_10, ms_1_0, ms_1_1, ms_1_2, ms_1_3, ms_1_4, ms_1_5, ms_1_6, ms_1_7, ms_1_8, ms_1_9, ms_1_10, ms_w, ms_r, ms_d, ms_M, ms_6, ms_K]; done)) ?_
            exact e_i hf hr hlocks hw rfl ((oc_some o1).trans ((if_pos c4).trans ((if_neg c5).trans ((if_pos c6).trans ((if_pos c7).trans rfl))))) dX7_plug_92
          · replace c7 := (bz_0 _).mp c7
            refine lv_ldc hx hb hf.2.2.2.1 (hf.2.2.2.2 _ q429) dX7_plug_63 ?_
            exact e_i hf hr hlocks hw rfl ((oc_some o1).trans ((if_pos c4).trans ((if_neg c5).trans ((if_pos c6).trans ((if_neg c7).trans rfl))))) dX7_plug_65
    · replace c4 := (bz_0 _).mp c4
      refine lv_ldc hx hb hf.2.2.2.1 (hf.2.2.2.2 _ q113) dX7_plug_23 ?_
      exact e_i hf hr hlocks hw rfl ((oc_some o1).trans ((if_neg c4).trans rfl)) dX7_plug_25
def sp_X7_unplug (μ : Mu)  (a : Int32) : Int32 × Mu :=
  oc (sp_X4_sensorAt (μ.1 0)  a) (
    ((-2000000001), μ)) (fun t2 =>
    if ¬ (μ.1 0 (sF t2 6)) = -1 then
      (sp_X7_toldPlace   ((sp_X0_record μ  ).1 0 (sF t2 6)), pM (sp_X0_record μ  ) 0 (sF t2 6) ((-1) : Int32))
    else
      ((-2000000002), μ))
def sp_X7_bath (μ : Mu)  (a : Int32) (b : Int32) : Int32 × Mu :=
  oc (sp_X4_sensorAt (μ.1 0)  a) (
    ((-2000000001), μ)) (fun t2 =>
    if (-200000 : Int64) ≤ b.toInt64 ∧ b.toInt64 ≤ 850000 then
      if (sp_X4_canBring (μ.1 0) t2 b : Int32) = 0 then
        ((-2000000002), μ)
      else
        ((sp_X0_record μ  ).1 0 (sF t2 4), pM (sp_X0_record μ  ) 0 (sF t2 4) b)
    else
      ((-2000000001), μ))
set_option maxHeartbeats 4000000 in
set_option maxRecDepth 100000 in
theorem k_X7_bath (l : Launch) (E : En) (μ : Mu)  (a : Int32) (b : Int32) (hK : KOk μ.2.2) : MtI l yX7_bath cX7_bath 5 .int ({ frames := 4, cells := 0, slots := 0, locals := 104 }) [.ref (E.1 (231)), .int (a), .int (b)] E μ (sp_X7_bath μ a b) := by
  refine mt_of (by decide +kernel) (Nat.le_of_ble_eq_true rfl) ?_
  intro p e s m args below meth c ls hf hr hlocks hl hw
  have hx := hf.1
  have hb := hf.2.1
  have hl : lv_has ls 5 [(0, .ref (E.1 (231))), (1, .int (a)), (2, .int (b))] := hl
  refine lv_aload_n hx hb dX7_bath_0 rfl (lv_at hl 0 rfl) ?_
  refine g_f hw hf (by decide) (c_O E _) rfl inlX7 0 (by decide) rfl q23 rfl dX7_bath_1 ?_
  refine lv_iload_n hx hb dX7_bath_4 rfl (lv_at hl 1 rfl) ?_
  refine c_q hw (run_V (As := [.int (a)]) (rest := []) (np := 1) hf hw (k_X4_sensorAt l E _ (by decide) a  ) ⟨gl_V q220 q221 q222 q22 q223, by decide +kernel⟩ ⟨rfl, rfl, Nat.le_of_ble_eq_true rfl, Nat.le_of_ble_eq_true rfl⟩ (lt_iS (by decide)) (c_iS E _ (by decide)) rfl rfl hl.1 rfl (Nat.le_of_ble_eq_true rfl) dX7_bath_5 ⟨Nat.zero_le _, Nat.zero_le _⟩) (fun H locs hw => ?_)
  rcases o1 : sp_X4_sensorAt (μ.1 0)  a with _ | t2
  · refine W.eq (g2 := F0 m 8 ls [.null]) rfl ?_
    refine lv_astore_nN (lv' := [(3, .null), (0, .ref (E.1 (231))), (1, .int (a)), (2, .int (b))]) hx hb dX7_bath_8 rfl hl (by decide) rfl (fun ls hl => ?_)
    refine lv_aload_nN hx hb dX7_bath_9 rfl (lv_at hl 0 rfl) ?_
    refine lv_ifnullN (tgt := 20) hx hb dX7_bath_10 (by decide) ?_
    refine lv_ldc hx hb hf.2.2.2.1 (hf.2.2.2.2 _ q113) dX7_bath_20 ?_
    exact e_i hf hr hlocks hw rfl ((oc_none o1).trans rfl) dX7_bath_22
  · have ht3 : t2 < 6 := (b_X4_sensorAt o1)
    refine W.eq (g2 := F0 m 8 ls [.ref (E.1 (iN 0 t2))]) rfl ?_
    refine lv_astore_n (lv' := [(3, .ref (E.1 (iN 0 t2))), (0, .ref (E.1 (231))), (1, .int (a)), (2, .int (b))]) hx hb dX7_bath_8 rfl hl (by decide) rfl (fun ls hl => ?_)
    refine lv_aload_n hx hb dX7_bath_9 rfl (lv_at hl 0 rfl) ?_
    refine lv_ifnull hx hb dX7_bath_10 ?_
    refine lv_iload_n hx hb dX7_bath_13 rfl (lv_at hl 3 rfl) ?_
    refine c_iR hw (run_S (As := [.int (b)]) (rest := []) (np := 1) hf hw (kn_X7_isTemperature l E _  b  ) ⟨gl_S q172 q173 q2 q174, by decide +kernel⟩ ⟨rfl, rfl, Nat.le_of_ble_eq_true rfl, Nat.le_of_ble_eq_true rfl⟩ rfl hl.1 rfl (Nat.le_of_ble_eq_true rfl) dX7_bath_14 ⟨Nat.zero_le _, Nat.zero_le _⟩) (fun H locs hw => ?_)
    refine lv_if_ne (tgt := 23) hx hb dX7_bath_17 (by decide) (fun c4 => ?_) (fun c4 => ?_)
    · replace c4 := (bz_n0 _).mp c4
      refine lv_aload_n hx hb dX7_bath_23 rfl (lv_at hl 1 rfl) ?_
      refine g_f hw hf (by decide) (c_O E _) rfl inlX7 0 (by decide) rfl q23 rfl dX7_bath_24 ?_
      refine lv_aload_n hx hb dX7_bath_27 rfl (lv_at hl 0 rfl) ?_
      refine lv_iload_n hx hb dX7_bath_28 rfl (lv_at hl 3 rfl) ?_
      refine c_iR hw (run_V (As := [.ref (E.1 (iN 0 t2)), .int (b)]) (rest := []) (np := 2) hf hw (k_X4_canBring l E _ (by decide) ht3 b  ) ⟨gl_V q532 q533 q534 q22 q535, by decide +kernel⟩ ⟨rfl, rfl, Nat.le_of_ble_eq_true rfl, Nat.le_of_ble_eq_true rfl⟩ (lt_iS (by decide)) (c_iS E _ (by decide)) rfl rfl hl.1 rfl (Nat.le_of_ble_eq_true rfl) dX7_bath_29 ⟨Nat.zero_le _, Nat.zero_le _⟩) (fun H locs hw => ?_)
      refine lv_if_ne (tgt := 38) hx hb dX7_bath_32 (by decide) (fun c5 => ?_) (fun c5 => ?_)
      · refine lv_aload_n hx hb dX7_bath_38 rfl (lv_at hl 1 rfl) ?_
        refine g_f hw hf (by decide) (c_O E _) rfl inlX7 2 (by decide) rfl q28 rfl dX7_bath_39 ?_
        refine lv_aload_n hx hb dX7_bath_42 rfl (lv_at hl 1 rfl) ?_
        refine g_f hw hf (by decide) (c_O E _) rfl inlX7 0 (by decide) rfl q23 rfl dX7_bath_43 ?_
        refine c_v hw (run_V (As := [.ref (E.1 (iS 0))]) (rest := []) (np := 1) hf hw (k_X0_record l E _    hK) ⟨gl_V q392 q393 q394 q27 q395, by decide +kernel⟩ ⟨rfl, rfl, Nat.le_of_ble_eq_true rfl, Nat.le_of_ble_eq_true rfl⟩ (by decide) (c_Hi E _) rfl rfl hl.1 rfl (Nat.le_of_ble_eq_true rfl) dX7_bath_46 ⟨Nat.zero_le _, Nat.zero_le _⟩) (fun H locs hw => ?_)
        refine lv_aload_n hx hb dX7_bath_49 rfl (lv_at hl 0 rfl) ?_
        refine g_f hw hf (lt_iN (by decide) ht3) (c_iN E _ (by decide) ht3) rfl inlX3 4 (by decide) rfl q212 rfl dX7_bath_50 ?_
        refine lv_istore (lv' := [(4, .int ((sp_X0_record μ  ).1 0 (sF t2 4))), (3, .ref (E.1 (iN 0 t2))), (0, .ref (E.1 (231))), (1, .int (a)), (2, .int (b))]) hx hb dX7_bath_53 hl (by decide) rfl (fun ls hl => ?_)
        refine lv_aload_n hx hb dX7_bath_55 rfl (lv_at hl 1 rfl) ?_
        refine lv_iload_n hx hb dX7_bath_56 rfl (lv_at hl 4 rfl) ?_
        refine p_f hw hf (lt_iN (by decide) ht3) (c_iN E _ (by decide) ht3) rfl inlX3 tyX3_ok nmX3 4 (by decide) rfl q212 rfl rfl rfl (Nat.le_of_ble_eq_true rfl) (s_N_4 E _ (by decide) ht3 _) dX7_bath_57 (fun H locs hw => ?_)
        refine lv_iload hx hb dX7_bath_60 (lv_at hl 0 rfl) ?_
        exact e_i hf hr hlocks hw rfl ((oc_some o1).trans ((if_pos c4).trans ((if_neg c5).trans rfl))) dX7_bath_62
      · refine lv_ldc hx hb hf.2.2.2.1 (hf.2.2.2.2 _ q429) dX7_bath_35 ?_
        exact e_i hf hr hlocks hw rfl ((oc_some o1).trans ((if_pos c4).trans ((if_pos c5).trans rfl))) dX7_bath_37
    · replace c4 := (bz_0 _).mp c4
      refine lv_ldc hx hb hf.2.2.2.1 (hf.2.2.2.2 _ q113) dX7_bath_20 ?_
      exact e_i hf hr hlocks hw rfl ((oc_some o1).trans ((if_neg c4).trans rfl)) dX7_bath_22
def sp_X7_lead (μ : Mu)  (a : Int32) (b : Int32) (w : Int32) : Int32 × Mu :=
  oc (sp_X4_sensorAt (μ.1 0)  a) (
    ((-2000000001), μ)) (fun t2 =>
    if 0 ≤ b ∧ b < (μ.1 0 (sF t2 1)) then
      if (0 : Int64) ≤ (w.toInt64) ∧ (w.toInt64) ≤ (50000 : Int64) then
        (sp_X3_leadOf ((sp_X0_record μ  ).1 0) t2 b, sp_X3_setLead (sp_X0_record μ  ) 0 t2 b w)
      else
        ((-2000000001), μ)
    else
      ((-2000000001), μ))
set_option maxHeartbeats 4000000 in
set_option maxRecDepth 100000 in
theorem k_X7_lead (l : Launch) (E : En) (μ : Mu)  (a : Int32) (b : Int32) (w : Int32) (hK : KOk μ.2.2) : MtI l yX7_lead cX7_lead 6 .int ({ frames := 4, cells := 0, slots := 0, locals := 104 }) [.ref (E.1 (231)), .int (a), .int (b), .int (w)] E μ (sp_X7_lead μ a b w) := by
  refine mt_of (by decide +kernel) (Nat.le_of_ble_eq_true rfl) ?_
  intro p e s m args below meth c ls hf hr hlocks hl hw
  have hx := hf.1
  have hb := hf.2.1
  have hl : lv_has ls 6 [(0, .ref (E.1 (231))), (1, .int (a)), (2, .int (b)), (3, .int (w))] := hl
  refine lv_aload_n hx hb dX7_lead_0 rfl (lv_at hl 0 rfl) ?_
  refine g_f hw hf (by decide) (c_O E _) rfl inlX7 0 (by decide) rfl q23 rfl dX7_lead_1 ?_
  refine lv_iload_n hx hb dX7_lead_4 rfl (lv_at hl 1 rfl) ?_
  refine c_q hw (run_V (As := [.int (a)]) (rest := []) (np := 1) hf hw (k_X4_sensorAt l E _ (by decide) a  ) ⟨gl_V q220 q221 q222 q22 q223, by decide +kernel⟩ ⟨rfl, rfl, Nat.le_of_ble_eq_true rfl, Nat.le_of_ble_eq_true rfl⟩ (lt_iS (by decide)) (c_iS E _ (by decide)) rfl rfl hl.1 rfl (Nat.le_of_ble_eq_true rfl) dX7_lead_5 ⟨Nat.zero_le _, Nat.zero_le _⟩) (fun H locs hw => ?_)
  rcases o1 : sp_X4_sensorAt (μ.1 0)  a with _ | t2
  · refine W.eq (g2 := F0 m 8 ls [.null]) rfl ?_
    refine lv_astoreN (lv' := [(4, .null), (0, .ref (E.1 (231))), (1, .int (a)), (2, .int (b)), (3, .int (w))]) hx hb dX7_lead_8 hl (by decide) rfl (fun ls hl => ?_)
    refine lv_aloadN hx hb dX7_lead_10 (lv_at hl 0 rfl) ?_
    refine lv_ifnullN (tgt := 36) hx hb dX7_lead_12 (by decide) ?_
    refine lv_ldc hx hb hf.2.2.2.1 (hf.2.2.2.2 _ q113) dX7_lead_36 ?_
    exact e_i hf hr hlocks hw rfl ((oc_none o1).trans rfl) dX7_lead_38
  · have ht3 : t2 < 6 := (b_X4_sensorAt o1)
    refine W.eq (g2 := F0 m 8 ls [.ref (E.1 (iN 0 t2))]) rfl ?_
    refine lv_astore (lv' := [(4, .ref (E.1 (iN 0 t2))), (0, .ref (E.1 (231))), (1, .int (a)), (2, .int (b)), (3, .int (w))]) hx hb dX7_lead_8 hl (by decide) rfl (fun ls hl => ?_)
    refine lv_aload hx hb dX7_lead_10 (lv_at hl 0 rfl) ?_
    refine lv_ifnull hx hb dX7_lead_12 ?_
    refine lv_aload hx hb dX7_lead_15 (lv_at hl 0 rfl) ?_
    refine lv_iload_n hx hb dX7_lead_17 rfl (lv_at hl 3 rfl) ?_
    refine c_iR hw (run_V (As := [.int (b)]) (rest := []) (np := 1) hf hw (kn_X3_hasWire l E _ (by decide) ht3 b  ) ⟨gl_V q224 q225 q226 q56 q227, by decide +kernel⟩ ⟨rfl, rfl, Nat.le_of_ble_eq_true rfl, Nat.le_of_ble_eq_true rfl⟩ (lt_iN (by decide) ht3) (c_iN E _ (by decide) ht3) rfl rfl hl.1 rfl (Nat.le_of_ble_eq_true rfl) dX7_lead_18 ⟨Nat.zero_le _, Nat.zero_le _⟩) (fun H locs hw => ?_)
    refine lv_if_eq (tgt := 36) hx hb dX7_lead_21 (by decide) (fun c4 => ?_) (fun c4 => ?_)
    · replace c4 := (bz_0 _).mp c4
      refine lv_ldc hx hb hf.2.2.2.1 (hf.2.2.2.2 _ q113) dX7_lead_36 ?_
      exact e_i hf hr hlocks hw rfl ((oc_some o1).trans ((if_neg c4).trans rfl)) dX7_lead_38
    · replace c4 := (bz_n0 _).mp c4
      refine lv_iload_n hx hb dX7_lead_24 rfl (lv_at hl 4 rfl) ?_
      refine lv_i2l hx hb dX7_lead_25 rfl ?_
      refine lv_lconst (v := 0) hx hb dX7_lead_26 (by decide) ?_
      refine lv_ldc2 hx hb hf.2.2.2.1 (hf.2.2.2.2 _ q490) dX7_lead_27 ?_
      refine c_iR hw (run_S (As := [.long (w.toInt64), .long (0), .long (50000)]) (rest := []) (np := 3) hf hw (kn_X7_isWithin l E _  (w.toInt64) (0 : Int64) (50000 : Int64)  ) ⟨gl_S q114 q115 q2 q116, by decide +kernel⟩ ⟨rfl, rfl, Nat.le_of_ble_eq_true rfl, Nat.le_of_ble_eq_true rfl⟩ rfl hl.1 rfl (Nat.le_of_ble_eq_true rfl) dX7_lead_30 ⟨Nat.zero_le _, Nat.zero_le _⟩) (fun H locs hw => ?_)
      refine lv_if_ne (tgt := 39) hx hb dX7_lead_33 (by decide) (fun c5 => ?_) (fun c5 => ?_)
      · replace c5 := (bz_n0 _).mp c5
        refine lv_aload_n hx hb dX7_lead_39 rfl (lv_at hl 1 rfl) ?_
        refine g_f hw hf (by decide) (c_O E _) rfl inlX7 2 (by decide) rfl q28 rfl dX7_lead_40 ?_
        refine lv_aload_n hx hb dX7_lead_43 rfl (lv_at hl 1 rfl) ?_
        refine g_f hw hf (by decide) (c_O E _) rfl inlX7 0 (by decide) rfl q23 rfl dX7_lead_44 ?_
        refine c_v hw (run_V (As := [.ref (E.1 (iS 0))]) (rest := []) (np := 1) hf hw (k_X0_record l E _    hK) ⟨gl_V q392 q393 q394 q27 q395, by decide +kernel⟩ ⟨rfl, rfl, Nat.le_of_ble_eq_true rfl, Nat.le_of_ble_eq_true rfl⟩ (by decide) (c_Hi E _) rfl rfl hl.1 rfl (Nat.le_of_ble_eq_true rfl) dX7_lead_47 ⟨Nat.zero_le _, Nat.zero_le _⟩) (fun H locs hw => ?_)
        refine lv_aload hx hb dX7_lead_50 (lv_at hl 0 rfl) ?_
        refine lv_iload_n hx hb dX7_lead_52 rfl (lv_at hl 3 rfl) ?_
        refine c_iR hw (run_V (As := [.int (b)]) (rest := []) (np := 1) hf hw (k_X3_leadOf l E _ (by decide) ht3 b  ) ⟨gl_V q229 q230 q231 q56 q232, by decide +kernel⟩ ⟨rfl, rfl, Nat.le_of_ble_eq_true rfl, Nat.le_of_ble_eq_true rfl⟩ (lt_iN (by decide) ht3) (c_iN E _ (by decide) ht3) rfl rfl hl.1 rfl (Nat.le_of_ble_eq_true rfl) dX7_lead_53 ⟨Nat.zero_le _, Nat.zero_le _⟩) (fun H locs hw => ?_)
        refine lv_istore (lv' := [(5, .int (sp_X3_leadOf ((sp_X0_record μ  ).1 0) t2 b)), (4, .ref (E.1 (iN 0 t2))), (0, .ref (E.1 (231))), (1, .int (a)), (2, .int (b)), (3, .int (w))]) hx hb dX7_lead_56 hl (by decide) rfl (fun ls hl => ?_)
        refine lv_aload hx hb dX7_lead_58 (lv_at hl 1 rfl) ?_
        refine lv_iload_n hx hb dX7_lead_60 rfl (lv_at hl 4 rfl) ?_
        refine lv_iload_n hx hb dX7_lead_61 rfl (lv_at hl 5 rfl) ?_
        refine c_v hw (run_V (As := [.int (b), .int (w)]) (rest := []) (np := 2) hf hw (k_X3_setLead l E _ (by decide) ht3 b w  ) ⟨gl_V q491 q492 q493 q56 q494, by decide +kernel⟩ ⟨rfl, rfl, Nat.le_of_ble_eq_true rfl, Nat.le_of_ble_eq_true rfl⟩ (lt_iN (by decide) ht3) (c_iN E _ (by decide) ht3) rfl rfl hl.1 rfl (Nat.le_of_ble_eq_true rfl) dX7_lead_62 ⟨Nat.zero_le _, Nat.zero_le _⟩) (fun H locs hw => ?_)
        refine lv_iload hx hb dX7_lead_65 (lv_at hl 0 rfl) ?_
        exact e_i hf hr hlocks hw rfl ((oc_some o1).trans ((if_pos c4).trans ((if_pos c5).trans rfl))) dX7_lead_67
      · replace c5 := (bz_0 _).mp c5
        refine lv_ldc hx hb hf.2.2.2.1 (hf.2.2.2.2 _ q113) dX7_lead_36 ?_
        exact e_i hf hr hlocks hw rfl ((oc_some o1).trans ((if_pos c4).trans ((if_neg c5).trans rfl))) dX7_lead_38
def sp_J6_bitCount_0f7a4   (w : Int32) : Int32 :=
  (((((((w - (((w.toUInt32 >>> ((1 : Int32).toUInt32 &&& Int32.toUInt32 31)).toInt32) &&& (1431655765 : Int32))) &&& (858993459 : Int32)) + ((((w - (((w.toUInt32 >>> ((1 : Int32).toUInt32 &&& Int32.toUInt32 31)).toInt32) &&& (1431655765 : Int32))).toUInt32 >>> ((2 : Int32).toUInt32 &&& Int32.toUInt32 31)).toInt32) &&& (858993459 : Int32))) + (((((w - (((w.toUInt32 >>> ((1 : Int32).toUInt32 &&& Int32.toUInt32 31)).toInt32) &&& (1431655765 : Int32))) &&& (858993459 : Int32)) + ((((w - (((w.toUInt32 >>> ((1 : Int32).toUInt32 &&& Int32.toUInt32 31)).toInt32) &&& (1431655765 : Int32))).toUInt32 >>> ((2 : Int32).toUInt32 &&& Int32.toUInt32 31)).toInt32) &&& (858993459 : Int32))).toUInt32 >>> ((4 : Int32).toUInt32 &&& Int32.toUInt32 31)).toInt32)) &&& (252645135 : Int32)) + (((((((w - (((w.toUInt32 >>> ((1 : Int32).toUInt32 &&& Int32.toUInt32 31)).toInt32) &&& (1431655765 : Int32))) &&& (858993459 : Int32)) + ((((w - (((w.toUInt32 >>> ((1 : Int32).toUInt32 &&& Int32.toUInt32 31)).toInt32) &&& (1431655765 : Int32))).toUInt32 >>> ((2 : Int32).toUInt32 &&& Int32.toUInt32 31)).toInt32) &&& (858993459 : Int32))) + (((((w - (((w.toUInt32 >>> ((1 : Int32).toUInt32 &&& Int32.toUInt32 31)).toInt32) &&& (1431655765 : Int32))) &&& (858993459 : Int32)) + ((((w - (((w.toUInt32 >>> ((1 : Int32).toUInt32 &&& Int32.toUInt32 31)).toInt32) &&& (1431655765 : Int32))).toUInt32 >>> ((2 : Int32).toUInt32 &&& Int32.toUInt32 31)).toInt32) &&& (858993459 : Int32))).toUInt32 >>> ((4 : Int32).toUInt32 &&& Int32.toUInt32 31)).toInt32)) &&& (252645135 : Int32)).toUInt32 >>> ((8 : Int32).toUInt32 &&& Int32.toUInt32 31)).toInt32)) + ((((((((w - (((w.toUInt32 >>> ((1 : Int32).toUInt32 &&& Int32.toUInt32 31)).toInt32) &&& (1431655765 : Int32))) &&& (858993459 : Int32)) + ((((w - (((w.toUInt32 >>> ((1 : Int32).toUInt32 &&& Int32.toUInt32 31)).toInt32) &&& (1431655765 : Int32))).toUInt32 >>> ((2 : Int32).toUInt32 &&& Int32.toUInt32 31)).toInt32) &&& (858993459 : Int32))) + (((((w - (((w.toUInt32 >>> ((1 : Int32).toUInt32 &&& Int32.toUInt32 31)).toInt32) &&& (1431655765 : Int32))) &&& (858993459 : Int32)) + ((((w - (((w.toUInt32 >>> ((1 : Int32).toUInt32 &&& Int32.toUInt32 31)).toInt32) &&& (1431655765 : Int32))).toUInt32 >>> ((2 : Int32).toUInt32 &&& Int32.toUInt32 31)).toInt32) &&& (858993459 : Int32))).toUInt32 >>> ((4 : Int32).toUInt32 &&& Int32.toUInt32 31)).toInt32)) &&& (252645135 : Int32)) + (((((((w - (((w.toUInt32 >>> ((1 : Int32).toUInt32 &&& Int32.toUInt32 31)).toInt32) &&& (1431655765 : Int32))) &&& (858993459 : Int32)) + ((((w - (((w.toUInt32 >>> ((1 : Int32).toUInt32 &&& Int32.toUInt32 31)).toInt32) &&& (1431655765 : Int32))).toUInt32 >>> ((2 : Int32).toUInt32 &&& Int32.toUInt32 31)).toInt32) &&& (858993459 : Int32))) + (((((w - (((w.toUInt32 >>> ((1 : Int32).toUInt32 &&& Int32.toUInt32 31)).toInt32) &&& (1431655765 : Int32))) &&& (858993459 : Int32)) + ((((w - (((w.toUInt32 >>> ((1 : Int32).toUInt32 &&& Int32.toUInt32 31)).toInt32) &&& (1431655765 : Int32))).toUInt32 >>> ((2 : Int32).toUInt32 &&& Int32.toUInt32 31)).toInt32) &&& (858993459 : Int32))).toUInt32 >>> ((4 : Int32).toUInt32 &&& Int32.toUInt32 31)).toInt32)) &&& (252645135 : Int32)).toUInt32 >>> ((8 : Int32).toUInt32 &&& Int32.toUInt32 31)).toInt32)).toUInt32 >>> ((16 : Int32).toUInt32 &&& Int32.toUInt32 31)).toInt32)) &&& (63 : Int32)
set_option maxHeartbeats 4000000 in
set_option maxRecDepth 100000 in
theorem k_J6_bitCount_0f7a4 (l : Launch) (E : En) (μ : Mu)  (w : Int32)  : MtI l yJ6_bitCount_0f7a4 cJ6_bitCount_0f7a4 1 .int ({ frames := 0, cells := 0, slots := 0, locals := 0 }) [.int (w)] E μ ((sp_J6_bitCount_0f7a4  w), μ) := by
  refine mt_of (by decide +kernel) (Nat.le_of_ble_eq_true rfl) ?_
  intro p e s m args below meth c ls hf hr hlocks hl hw
  have hx := hf.1
  have hb := hf.2.1
  have hl : lv_has ls 1 [(0, .int (w))] := hl
  refine lv_iload_n hx hb dJ6_bitCount_0f7a4_0 rfl (lv_at hl 0 rfl) ?_
  refine lv_iload_n hx hb dJ6_bitCount_0f7a4_1 rfl (lv_at hl 0 rfl) ?_
  refine lv_iconst (v := 1) hx hb dJ6_bitCount_0f7a4_2 (by decide) ?_
  refine lv_iushr hx hb dJ6_bitCount_0f7a4_3 rfl ?_
  refine lv_ldcw hx hb hf.2.2.2.1 (hf.2.2.2.2 _ q574) dJ6_bitCount_0f7a4_4 ?_
  refine lv_iand hx hb dJ6_bitCount_0f7a4_7 ?_
  refine lv_isub hx hb dJ6_bitCount_0f7a4_8 ?_
  refine lv_istore_n (lv' := [(0, .int (w - (((w.toUInt32 >>> ((1 : Int32).toUInt32 &&& Int32.toUInt32 31)).toInt32) &&& (1431655765 : Int32))))]) hx hb dJ6_bitCount_0f7a4_9 rfl hl (by decide) rfl (fun ls hl => ?_)
  refine lv_iload_n hx hb dJ6_bitCount_0f7a4_10 rfl (lv_at hl 0 rfl) ?_
  refine lv_ldcw hx hb hf.2.2.2.1 (hf.2.2.2.2 _ q575) dJ6_bitCount_0f7a4_11 ?_
  refine lv_iand hx hb dJ6_bitCount_0f7a4_14 ?_
  refine lv_iload_n hx hb dJ6_bitCount_0f7a4_15 rfl (lv_at hl 0 rfl) ?_
  refine lv_iconst (v := 2) hx hb dJ6_bitCount_0f7a4_16 (by decide) ?_
  refine lv_iushr hx hb dJ6_bitCount_0f7a4_17 rfl ?_
  refine lv_ldcw hx hb hf.2.2.2.1 (hf.2.2.2.2 _ q575) dJ6_bitCount_0f7a4_18 ?_
  refine lv_iand hx hb dJ6_bitCount_0f7a4_21 ?_
  refine lv_iadd hx hb dJ6_bitCount_0f7a4_22 ?_
  refine lv_istore_n (lv' := [(0, .int (((w - (((w.toUInt32 >>> ((1 : Int32).toUInt32 &&& Int32.toUInt32 31)).toInt32) &&& (1431655765 : Int32))) &&& (858993459 : Int32)) + ((((w - (((w.toUInt32 >>> ((1 : Int32).toUInt32 &&& Int32.toUInt32 31)).toInt32) &&& (1431655765 : Int32))).toUInt32 >>> ((2 : Int32).toUInt32 &&& Int32.toUInt32 31)).toInt32) &&& (858993459 : Int32))))]) hx hb dJ6_bitCount_0f7a4_23 rfl hl (by decide) rfl (fun ls hl => ?_)
  refine lv_iload_n hx hb dJ6_bitCount_0f7a4_24 rfl (lv_at hl 0 rfl) ?_
  refine lv_iload_n hx hb dJ6_bitCount_0f7a4_25 rfl (lv_at hl 0 rfl) ?_
  refine lv_iconst (v := 4) hx hb dJ6_bitCount_0f7a4_26 (by decide) ?_
  refine lv_iushr hx hb dJ6_bitCount_0f7a4_27 rfl ?_
  refine lv_iadd hx hb dJ6_bitCount_0f7a4_28 ?_
  refine lv_ldcw hx hb hf.2.2.2.1 (hf.2.2.2.2 _ q576) dJ6_bitCount_0f7a4_29 ?_
  refine lv_iand hx hb dJ6_bitCount_0f7a4_32 ?_
  refine lv_istore_n (lv' := [(0, .int (((((w - (((w.toUInt32 >>> ((1 : Int32).toUInt32 &&& Int32.toUInt32 31)).toInt32) &&& (1431655765 : Int32))) &&& (858993459 : Int32)) + ((((w - (((w.toUInt32 >>> ((1 : Int32).toUInt32 &&& Int32.toUInt32 31)).toInt32) &&& (1431655765 : Int32))).toUInt32 >>> ((2 : Int32).toUInt32 &&& Int32.toUInt32 31)).toInt32) &&& (858993459 : Int32))) + (((((w - (((w.toUInt32 >>> ((1 : Int32).toUInt32 &&& Int32.toUInt32 31)).toInt32) &&& (1431655765 : Int32))) &&& (858993459 : Int32)) + ((((w - (((w.toUInt32 >>> ((1 : Int32).toUInt32 &&& Int32.toUInt32 31)).toInt32) &&& (1431655765 : Int32))).toUInt32 >>> ((2 : Int32).toUInt32 &&& Int32.toUInt32 31)).toInt32) &&& (858993459 : Int32))).toUInt32 >>> ((4 : Int32).toUInt32 &&& Int32.toUInt32 31)).toInt32)) &&& (252645135 : Int32)))]) hx hb dJ6_bitCount_0f7a4_33 rfl hl (by decide) rfl (fun ls hl => ?_)
  refine lv_iload_n hx hb dJ6_bitCount_0f7a4_34 rfl (lv_at hl 0 rfl) ?_
  refine lv_iload_n hx hb dJ6_bitCount_0f7a4_35 rfl (lv_at hl 0 rfl) ?_
  refine lv_bipush (v := 8) hx hb dJ6_bitCount_0f7a4_36 (by decide) ?_
  refine lv_iushr hx hb dJ6_bitCount_0f7a4_38 rfl ?_
  refine lv_iadd hx hb dJ6_bitCount_0f7a4_39 ?_
  refine lv_istore_n (lv' := [(0, .int ((((((w - (((w.toUInt32 >>> ((1 : Int32).toUInt32 &&& Int32.toUInt32 31)).toInt32) &&& (1431655765 : Int32))) &&& (858993459 : Int32)) + ((((w - (((w.toUInt32 >>> ((1 : Int32).toUInt32 &&& Int32.toUInt32 31)).toInt32) &&& (1431655765 : Int32))).toUInt32 >>> ((2 : Int32).toUInt32 &&& Int32.toUInt32 31)).toInt32) &&& (858993459 : Int32))) + (((((w - (((w.toUInt32 >>> ((1 : Int32).toUInt32 &&& Int32.toUInt32 31)).toInt32) &&& (1431655765 : Int32))) &&& (858993459 : Int32)) + ((((w - (((w.toUInt32 >>> ((1 : Int32).toUInt32 &&& Int32.toUInt32 31)).toInt32) &&& (1431655765 : Int32))).toUInt32 >>> ((2 : Int32).toUInt32 &&& Int32.toUInt32 31)).toInt32) &&& (858993459 : Int32))).toUInt32 >>> ((4 : Int32).toUInt32 &&& Int32.toUInt32 31)).toInt32)) &&& (252645135 : Int32)) + (((((((w - (((w.toUInt32 >>> ((1 : Int32).toUInt32 &&& Int32.toUInt32 31)).toInt32) &&& (1431655765 : Int32))) &&& (858993459 : Int32)) + ((((w - (((w.toUInt32 >>> ((1 : Int32).toUInt32 &&& Int32.toUInt32 31)).toInt32) &&& (1431655765 : Int32))).toUInt32 >>> ((2 : Int32).toUInt32 &&& Int32.toUInt32 31)).toInt32) &&& (858993459 : Int32))) + (((((w - (((w.toUInt32 >>> ((1 : Int32).toUInt32 &&& Int32.toUInt32 31)).toInt32) &&& (1431655765 : Int32))) &&& (858993459 : Int32)) + ((((w - (((w.toUInt32 >>> ((1 : Int32).toUInt32 &&& Int32.toUInt32 31)).toInt32) &&& (1431655765 : Int32))).toUInt32 >>> ((2 : Int32).toUInt32 &&& Int32.toUInt32 31)).toInt32) &&& (858993459 : Int32))).toUInt32 >>> ((4 : Int32).toUInt32 &&& Int32.toUInt32 31)).toInt32)) &&& (252645135 : Int32)).toUInt32 >>> ((8 : Int32).toUInt32 &&& Int32.toUInt32 31)).toInt32)))]) hx hb dJ6_bitCount_0f7a4_40 rfl hl (by decide) rfl (fun ls hl => ?_)
  refine lv_iload_n hx hb dJ6_bitCount_0f7a4_41 rfl (lv_at hl 0 rfl) ?_
  refine lv_iload_n hx hb dJ6_bitCount_0f7a4_42 rfl (lv_at hl 0 rfl) ?_
  refine lv_bipush (v := 16) hx hb dJ6_bitCount_0f7a4_43 (by decide) ?_
  refine lv_iushr hx hb dJ6_bitCount_0f7a4_45 rfl ?_
  refine lv_iadd hx hb dJ6_bitCount_0f7a4_46 ?_
  refine lv_istore_n (lv' := [(0, .int (((((((w - (((w.toUInt32 >>> ((1 : Int32).toUInt32 &&& Int32.toUInt32 31)).toInt32) &&& (1431655765 : Int32))) &&& (858993459 : Int32)) + ((((w - (((w.toUInt32 >>> ((1 : Int32).toUInt32 &&& Int32.toUInt32 31)).toInt32) &&& (1431655765 : Int32))).toUInt32 >>> ((2 : Int32).toUInt32 &&& Int32.toUInt32 31)).toInt32) &&& (858993459 : Int32))) + (((((w - (((w.toUInt32 >>> ((1 : Int32).toUInt32 &&& Int32.toUInt32 31)).toInt32) &&& (1431655765 : Int32))) &&& (858993459 : Int32)) + ((((w - (((w.toUInt32 >>> ((1 : Int32).toUInt32 &&& Int32.toUInt32 31)).toInt32) &&& (1431655765 : Int32))).toUInt32 >>> ((2 : Int32).toUInt32 &&& Int32.toUInt32 31)).toInt32) &&& (858993459 : Int32))).toUInt32 >>> ((4 : Int32).toUInt32 &&& Int32.toUInt32 31)).toInt32)) &&& (252645135 : Int32)) + (((((((w - (((w.toUInt32 >>> ((1 : Int32).toUInt32 &&& Int32.toUInt32 31)).toInt32) &&& (1431655765 : Int32))) &&& (858993459 : Int32)) + ((((w - (((w.toUInt32 >>> ((1 : Int32).toUInt32 &&& Int32.toUInt32 31)).toInt32) &&& (1431655765 : Int32))).toUInt32 >>> ((2 : Int32).toUInt32 &&& Int32.toUInt32 31)).toInt32) &&& (858993459 : Int32))) + (((((w - (((w.toUInt32 >>> ((1 : Int32).toUInt32 &&& Int32.toUInt32 31)).toInt32) &&& (1431655765 : Int32))) &&& (858993459 : Int32)) + ((((w - (((w.toUInt32 >>> ((1 : Int32).toUInt32 &&& Int32.toUInt32 31)).toInt32) &&& (1431655765 : Int32))).toUInt32 >>> ((2 : Int32).toUInt32 &&& Int32.toUInt32 31)).toInt32) &&& (858993459 : Int32))).toUInt32 >>> ((4 : Int32).toUInt32 &&& Int32.toUInt32 31)).toInt32)) &&& (252645135 : Int32)).toUInt32 >>> ((8 : Int32).toUInt32 &&& Int32.toUInt32 31)).toInt32)) + ((((((((w - (((w.toUInt32 >>> ((1 : Int32).toUInt32 &&& Int32.toUInt32 31)).toInt32) &&& (1431655765 : Int32))) &&& (858993459 : Int32)) + ((((w - (((w.toUInt32 >>> ((1 : Int32).toUInt32 &&& Int32.toUInt32 31)).toInt32) &&& (1431655765 : Int32))).toUInt32 >>> ((2 : Int32).toUInt32 &&& Int32.toUInt32 31)).toInt32) &&& (858993459 : Int32))) + (((((w - (((w.toUInt32 >>> ((1 : Int32).toUInt32 &&& Int32.toUInt32 31)).toInt32) &&& (1431655765 : Int32))) &&& (858993459 : Int32)) + ((((w - (((w.toUInt32 >>> ((1 : Int32).toUInt32 &&& Int32.toUInt32 31)).toInt32) &&& (1431655765 : Int32))).toUInt32 >>> ((2 : Int32).toUInt32 &&& Int32.toUInt32 31)).toInt32) &&& (858993459 : Int32))).toUInt32 >>> ((4 : Int32).toUInt32 &&& Int32.toUInt32 31)).toInt32)) &&& (252645135 : Int32)) + (((((((w - (((w.toUInt32 >>> ((1 : Int32).toUInt32 &&& Int32.toUInt32 31)).toInt32) &&& (1431655765 : Int32))) &&& (858993459 : Int32)) + ((((w - (((w.toUInt32 >>> ((1 : Int32).toUInt32 &&& Int32.toUInt32 31)).toInt32) &&& (1431655765 : Int32))).toUInt32 >>> ((2 : Int32).toUInt32 &&& Int32.toUInt32 31)).toInt32) &&& (858993459 : Int32))) + (((((w - (((w.toUInt32 >>> ((1 : Int32).toUInt32 &&& Int32.toUInt32 31)).toInt32) &&& (1431655765 : Int32))) &&& (858993459 : Int32)) + ((((w - (((w.toUInt32 >>> ((1 : Int32).toUInt32 &&& Int32.toUInt32 31)).toInt32) &&& (1431655765 : Int32))).toUInt32 >>> ((2 : Int32).toUInt32 &&& Int32.toUInt32 31)).toInt32) &&& (858993459 : Int32))).toUInt32 >>> ((4 : Int32).toUInt32 &&& Int32.toUInt32 31)).toInt32)) &&& (252645135 : Int32)).toUInt32 >>> ((8 : Int32).toUInt32 &&& Int32.toUInt32 31)).toInt32)).toUInt32 >>> ((16 : Int32).toUInt32 &&& Int32.toUInt32 31)).toInt32)))]) hx hb dJ6_bitCount_0f7a4_47 rfl hl (by decide) rfl (fun ls hl => ?_)
  refine lv_iload_n hx hb dJ6_bitCount_0f7a4_48 rfl (lv_at hl 0 rfl) ?_
  refine lv_bipush (v := 63) hx hb dJ6_bitCount_0f7a4_49 (by decide) ?_
  refine lv_iand hx hb dJ6_bitCount_0f7a4_51 ?_
  exact e_i hf hr hlocks hw rfl (congrArg (fun z => (z, μ)) rfl) dJ6_bitCount_0f7a4_52
def sp_X7_cut (μ : Mu)  (a : Int32) (b : Int32) (w : Int32) : Int32 × Mu :=
  oc (sp_X4_sensorAt (μ.1 0)  a) (
    ((-2000000001), μ)) (fun t2 =>
    if 0 ≤ b ∧ b < (μ.1 0 (sF t2 1)) then
      if (0 : Int64) ≤ (w.toInt64) ∧ (w.toInt64) ≤ (1 : Int64) then
        if (w : Int32) = 1 then
          if (bz ((μ.1 0 (sF t2 5)) >>> (b &&& 31) &&& 1 = 1) : Int32) = 1 then
            ((-2000000002), μ)
          else
            (sp_J6_bitCount_0f7a4   ((sp_X3_turnWire (sp_X0_record μ  ) 0 t2 b).1 0 (sF t2 5)), sp_X3_turnWire (sp_X0_record μ  ) 0 t2 b)
        else
          if (μ.1 0 (sF t2 5)) >>> (b &&& 31) &&& 1 = 1 then
            (sp_J6_bitCount_0f7a4   ((sp_X3_turnWire (sp_X0_record μ  ) 0 t2 b).1 0 (sF t2 5)), sp_X3_turnWire (sp_X0_record μ  ) 0 t2 b)
          else
            ((-2000000002), μ)
      else
        ((-2000000001), μ)
    else
      ((-2000000001), μ))
set_option maxHeartbeats 4000000 in
set_option maxRecDepth 100000 in
theorem k_X7_cut (l : Launch) (E : En) (μ : Mu)  (a : Int32) (b : Int32) (w : Int32) (hK : KOk μ.2.2) : MtI l yX7_cut cX7_cut 5 .int ({ frames := 4, cells := 0, slots := 0, locals := 104 }) [.ref (E.1 (231)), .int (a), .int (b), .int (w)] E μ (sp_X7_cut μ a b w) := by
  refine mt_of (by decide +kernel) (Nat.le_of_ble_eq_true rfl) ?_
  intro p e s m args below meth c ls hf hr hlocks hl hw
  have hx := hf.1
  have hb := hf.2.1
  have hl : lv_has ls 5 [(0, .ref (E.1 (231))), (1, .int (a)), (2, .int (b)), (3, .int (w))] := hl
  refine lv_aload_n hx hb dX7_cut_0 rfl (lv_at hl 0 rfl) ?_
  refine g_f hw hf (by decide) (c_O E _) rfl inlX7 0 (by decide) rfl q23 rfl dX7_cut_1 ?_
  refine lv_iload_n hx hb dX7_cut_4 rfl (lv_at hl 1 rfl) ?_
  refine c_q hw (run_V (As := [.int (a)]) (rest := []) (np := 1) hf hw (k_X4_sensorAt l E _ (by decide) a  ) ⟨gl_V q220 q221 q222 q22 q223, by decide +kernel⟩ ⟨rfl, rfl, Nat.le_of_ble_eq_true rfl, Nat.le_of_ble_eq_true rfl⟩ (lt_iS (by decide)) (c_iS E _ (by decide)) rfl rfl hl.1 rfl (Nat.le_of_ble_eq_true rfl) dX7_cut_5 ⟨Nat.zero_le _, Nat.zero_le _⟩) (fun H locs hw => ?_)
  rcases o1 : sp_X4_sensorAt (μ.1 0)  a with _ | t2
  · refine W.eq (g2 := F0 m 8 ls [.null]) rfl ?_
    refine lv_astoreN (lv' := [(4, .null), (0, .ref (E.1 (231))), (1, .int (a)), (2, .int (b)), (3, .int (w))]) hx hb dX7_cut_8 hl (by decide) rfl (fun ls hl => ?_)
    refine lv_aloadN hx hb dX7_cut_10 (lv_at hl 0 rfl) ?_
    refine lv_ifnullN (tgt := 34) hx hb dX7_cut_12 (by decide) ?_
    refine lv_ldc hx hb hf.2.2.2.1 (hf.2.2.2.2 _ q113) dX7_cut_34 ?_
    exact e_i hf hr hlocks hw rfl ((oc_none o1).trans rfl) dX7_cut_36
  · have ht3 : t2 < 6 := (b_X4_sensorAt o1)
    refine W.eq (g2 := F0 m 8 ls [.ref (E.1 (iN 0 t2))]) rfl ?_
    refine lv_astore (lv' := [(4, .ref (E.1 (iN 0 t2))), (0, .ref (E.1 (231))), (1, .int (a)), (2, .int (b)), (3, .int (w))]) hx hb dX7_cut_8 hl (by decide) rfl (fun ls hl => ?_)
    refine lv_aload hx hb dX7_cut_10 (lv_at hl 0 rfl) ?_
    refine lv_ifnull hx hb dX7_cut_12 ?_
    refine lv_aload hx hb dX7_cut_15 (lv_at hl 0 rfl) ?_
    refine lv_iload_n hx hb dX7_cut_17 rfl (lv_at hl 3 rfl) ?_
    refine c_iR hw (run_V (As := [.int (b)]) (rest := []) (np := 1) hf hw (kn_X3_hasWire l E _ (by decide) ht3 b  ) ⟨gl_V q224 q225 q226 q56 q227, by decide +kernel⟩ ⟨rfl, rfl, Nat.le_of_ble_eq_true rfl, Nat.le_of_ble_eq_true rfl⟩ (lt_iN (by decide) ht3) (c_iN E _ (by decide) ht3) rfl rfl hl.1 rfl (Nat.le_of_ble_eq_true rfl) dX7_cut_18 ⟨Nat.zero_le _, Nat.zero_le _⟩) (fun H locs hw => ?_)
    refine lv_if_eq (tgt := 34) hx hb dX7_cut_21 (by decide) (fun c4 => ?_) (fun c4 => ?_)
    · replace c4 := (bz_0 _).mp c4
      refine lv_ldc hx hb hf.2.2.2.1 (hf.2.2.2.2 _ q113) dX7_cut_34 ?_
      exact e_i hf hr hlocks hw rfl ((oc_some o1).trans ((if_neg c4).trans rfl)) dX7_cut_36
    · replace c4 := (bz_n0 _).mp c4
      refine lv_iload_n hx hb dX7_cut_24 rfl (lv_at hl 4 rfl) ?_
      refine lv_i2l hx hb dX7_cut_25 rfl ?_
      refine lv_lconst (v := 0) hx hb dX7_cut_26 (by decide) ?_
      refine lv_lconst (v := 1) hx hb dX7_cut_27 (by decide) ?_
      refine c_iR hw (run_S (As := [.long (w.toInt64), .long (0), .long (1)]) (rest := []) (np := 3) hf hw (kn_X7_isWithin l E _  (w.toInt64) (0 : Int64) (1 : Int64)  ) ⟨gl_S q114 q115 q2 q116, by decide +kernel⟩ ⟨rfl, rfl, Nat.le_of_ble_eq_true rfl, Nat.le_of_ble_eq_true rfl⟩ rfl hl.1 rfl (Nat.le_of_ble_eq_true rfl) dX7_cut_28 ⟨Nat.zero_le _, Nat.zero_le _⟩) (fun H locs hw => ?_)
      refine lv_if_ne (tgt := 37) hx hb dX7_cut_31 (by decide) (fun c5 => ?_) (fun c5 => ?_)
      · replace c5 := (bz_n0 _).mp c5
        refine lv_aload hx hb dX7_cut_37 (lv_at hl 0 rfl) ?_
        refine lv_iload_n hx hb dX7_cut_39 rfl (lv_at hl 3 rfl) ?_
        refine c_iR hw (run_V (As := [.int (b)]) (rest := []) (np := 1) hf hw (kn_X3_isBroken l E _ (by decide) ht3 b  ) ⟨gl_V q562 q563 q564 q56 q565, by decide +kernel⟩ ⟨rfl, rfl, Nat.le_of_ble_eq_true rfl, Nat.le_of_ble_eq_true rfl⟩ (lt_iN (by decide) ht3) (c_iN E _ (by decide) ht3) rfl rfl hl.1 rfl (Nat.le_of_ble_eq_true rfl) dX7_cut_40 ⟨Nat.zero_le _, Nat.zero_le _⟩) (fun H locs hw => ?_)
        refine lv_iload_n hx hb dX7_cut_43 rfl (lv_at hl 4 rfl) ?_
        refine lv_iconst (v := 1) hx hb dX7_cut_44 (by decide) ?_
        refine lv_icmp_ne (tgt := 52) hx hb dX7_cut_45 (by decide) (fun c6 => ?_) (fun c6 => ?_)
        · refine lv_iconst (v := 0) hx hb dX7_cut_52 (by decide) ?_
          refine lv_icmp_ne (tgt := 59) hx hb dX7_cut_53 (by decide) (fun c7 => ?_) (fun c7 => ?_)
          · replace c7 := (bz_n0 _).mp c7
            refine lv_aload_n hx hb dX7_cut_59 rfl (lv_at hl 1 rfl) ?_
            refine g_f hw hf (by decide) (c_O E _) rfl inlX7 2 (by decide) rfl q28 rfl dX7_cut_60 ?_
            refine lv_aload_n hx hb dX7_cut_63 rfl (lv_at hl 1 rfl) ?_
            refine g_f hw hf (by decide) (c_O E _) rfl inlX7 0 (by decide) rfl q23 rfl dX7_cut_64 ?_
            refine c_v hw (run_V (As := [.ref (E.1 (iS 0))]) (rest := []) (np := 1) hf hw (k_X0_record l E _    hK) ⟨gl_V q392 q393 q394 q27 q395, by decide +kernel⟩ ⟨rfl, rfl, Nat.le_of_ble_eq_true rfl, Nat.le_of_ble_eq_true rfl⟩ (by decide) (c_Hi E _) rfl rfl hl.1 rfl (Nat.le_of_ble_eq_true rfl) dX7_cut_67 ⟨Nat.zero_le _, Nat.zero_le _⟩) (fun H locs hw => ?_)
            refine lv_aload hx hb dX7_cut_70 (lv_at hl 0 rfl) ?_
            refine lv_iload_n hx hb dX7_cut_72 rfl (lv_at hl 3 rfl) ?_
            refine c_v hw (run_V (As := [.int (b)]) (rest := []) (np := 1) hf hw (k_X3_turnWire l E _ (by decide) ht3 b  ) ⟨gl_V q566 q567 q568 q56 q569, by decide +kernel⟩ ⟨rfl, rfl, Nat.le_of_ble_eq_true rfl, Nat.le_of_ble_eq_true rfl⟩ (lt_iN (by decide) ht3) (c_iN E _ (by decide) ht3) rfl rfl hl.1 rfl (Nat.le_of_ble_eq_true rfl) dX7_cut_73 ⟨Nat.zero_le _, Nat.zero_le _⟩) (fun H locs hw => ?_)
            refine lv_aload hx hb dX7_cut_76 (lv_at hl 0 rfl) ?_
            refine g_f hw hf (lt_iN (by decide) ht3) (c_iN E _ (by decide) ht3) rfl inlX3 5 (by decide) rfl q213 rfl dX7_cut_78 ?_
            refine c_iR hw (run_S (As := [.int ((sp_X3_turnWire (sp_X0_record μ  ) 0 t2 b).1 0 (sF t2 5))]) (rest := []) (np := 1) hf hw (k_J6_bitCount_0f7a4 l E _  ((sp_X3_turnWire (sp_X0_record μ  ) 0 t2 b).1 0 (sF t2 5))  ) ⟨gl_S q570 q571 q572 q573, by decide +kernel⟩ ⟨rfl, rfl, Nat.le_of_ble_eq_true rfl, Nat.le_of_ble_eq_true rfl⟩ rfl hl.1 rfl (Nat.le_of_ble_eq_true rfl) dX7_cut_81 ⟨Nat.zero_le _, Nat.zero_le _⟩) (fun H locs hw => ?_)
            exact e_i hf hr hlocks hw rfl ((oc_some o1).trans ((if_pos c4).trans ((if_pos c5).trans ((if_neg c6).trans ((if_pos c7).trans rfl))))) dX7_cut_84
          · replace c7 := (bz_0 _).mp c7
            refine lv_ldc hx hb hf.2.2.2.1 (hf.2.2.2.2 _ q429) dX7_cut_56 ?_
            exact e_i hf hr hlocks hw rfl ((oc_some o1).trans ((if_pos c4).trans ((if_pos c5).trans ((if_neg c6).trans ((if_neg c7).trans rfl))))) dX7_cut_58
        · refine lv_iconst (v := 1) hx hb dX7_cut_48 (by decide) ?_
          refine lv_goto (tgt := 53) hx hb dX7_cut_49 (by decide) ?_
          refine lv_icmp_ne (tgt := 59) hx hb dX7_cut_53 (by decide) (fun c8 => ?_) (fun c8 => ?_)
          · refine lv_aload_n hx hb dX7_cut_59 rfl (lv_at hl 1 rfl) ?_
            refine g_f hw hf (by decide) (c_O E _) rfl inlX7 2 (by decide) rfl q28 rfl dX7_cut_60 ?_
            refine lv_aload_n hx hb dX7_cut_63 rfl (lv_at hl 1 rfl) ?_
            refine g_f hw hf (by decide) (c_O E _) rfl inlX7 0 (by decide) rfl q23 rfl dX7_cut_64 ?_
            refine c_v hw (run_V (As := [.ref (E.1 (iS 0))]) (rest := []) (np := 1) hf hw (k_X0_record l E _    hK) ⟨gl_V q392 q393 q394 q27 q395, by decide +kernel⟩ ⟨rfl, rfl, Nat.le_of_ble_eq_true rfl, Nat.le_of_ble_eq_true rfl⟩ (by decide) (c_Hi E _) rfl rfl hl.1 rfl (Nat.le_of_ble_eq_true rfl) dX7_cut_67 ⟨Nat.zero_le _, Nat.zero_le _⟩) (fun H locs hw => ?_)
            refine lv_aload hx hb dX7_cut_70 (lv_at hl 0 rfl) ?_
            refine lv_iload_n hx hb dX7_cut_72 rfl (lv_at hl 3 rfl) ?_
            refine c_v hw (run_V (As := [.int (b)]) (rest := []) (np := 1) hf hw (k_X3_turnWire l E _ (by decide) ht3 b  ) ⟨gl_V q566 q567 q568 q56 q569, by decide +kernel⟩ ⟨rfl, rfl, Nat.le_of_ble_eq_true rfl, Nat.le_of_ble_eq_true rfl⟩ (lt_iN (by decide) ht3) (c_iN E _ (by decide) ht3) rfl rfl hl.1 rfl (Nat.le_of_ble_eq_true rfl) dX7_cut_73 ⟨Nat.zero_le _, Nat.zero_le _⟩) (fun H locs hw => ?_)
            refine lv_aload hx hb dX7_cut_76 (lv_at hl 0 rfl) ?_
            refine g_f hw hf (lt_iN (by decide) ht3) (c_iN E _ (by decide) ht3) rfl inlX3 5 (by decide) rfl q213 rfl dX7_cut_78 ?_
            refine c_iR hw (run_S (As := [.int ((sp_X3_turnWire (sp_X0_record μ  ) 0 t2 b).1 0 (sF t2 5))]) (rest := []) (np := 1) hf hw (k_J6_bitCount_0f7a4 l E _  ((sp_X3_turnWire (sp_X0_record μ  ) 0 t2 b).1 0 (sF t2 5))  ) ⟨gl_S q570 q571 q572 q573, by decide +kernel⟩ ⟨rfl, rfl, Nat.le_of_ble_eq_true rfl, Nat.le_of_ble_eq_true rfl⟩ rfl hl.1 rfl (Nat.le_of_ble_eq_true rfl) dX7_cut_81 ⟨Nat.zero_le _, Nat.zero_le _⟩) (fun H locs hw => ?_)
            exact e_i hf hr hlocks hw rfl ((oc_some o1).trans ((if_pos c4).trans ((if_pos c5).trans ((if_pos c6).trans ((if_neg c8).trans rfl))))) dX7_cut_84
          · refine lv_ldc hx hb hf.2.2.2.1 (hf.2.2.2.2 _ q429) dX7_cut_56 ?_
            exact e_i hf hr hlocks hw rfl ((oc_some o1).trans ((if_pos c4).trans ((if_pos c5).trans ((if_pos c6).trans ((if_pos c8).trans rfl))))) dX7_cut_58
      · replace c5 := (bz_0 _).mp c5
        refine lv_ldc hx hb hf.2.2.2.1 (hf.2.2.2.2 _ q113) dX7_cut_34 ?_
        exact e_i hf hr hlocks hw rfl ((oc_some o1).trans ((if_pos c4).trans ((if_neg c5).trans rfl))) dX7_cut_36
def sp_X7_drift (μ : Mu)  (a : Int32) (b : Int32) : Int32 × Mu :=
  oc (sp_X4_sensorAt (μ.1 0)  a) (
    ((-2000000001), μ)) (fun t2 =>
    if ((-100000) : Int64) ≤ (b.toInt64) ∧ (b.toInt64) ≤ (100000 : Int64) then
      if (1000 : Int64) ≤ ((((μ.1 0 (sF t2 2)).toInt64) * (1000000 + (b.toInt64))) / 1000000) ∧ ((((μ.1 0 (sF t2 2)).toInt64) * (1000000 + (b.toInt64))) / 1000000) ≤ 2000000 then
        (((((μ.1 0 (sF t2 2)).toInt64) * (1000000 + (b.toInt64))) / 1000000).toInt32, pM (sp_X0_record μ  ) 0 (sF t2 2) (((((μ.1 0 (sF t2 2)).toInt64) * (1000000 + (b.toInt64))) / 1000000).toInt32))
      else
        ((-2000000002), μ)
    else
      ((-2000000001), μ))
set_option maxHeartbeats 4000000 in
set_option maxRecDepth 100000 in
theorem k_X7_drift (l : Launch) (E : En) (μ : Mu)  (a : Int32) (b : Int32) (hK : KOk μ.2.2) : MtI l yX7_drift cX7_drift 6 .int ({ frames := 4, cells := 0, slots := 0, locals := 104 }) [.ref (E.1 (231)), .int (a), .int (b)] E μ (sp_X7_drift μ a b) := by
  refine mt_of (by decide +kernel) (Nat.le_of_ble_eq_true rfl) ?_
  intro p e s m args below meth c ls hf hr hlocks hl hw
  have hx := hf.1
  have hb := hf.2.1
  have hl : lv_has ls 6 [(0, .ref (E.1 (231))), (1, .int (a)), (2, .int (b))] := hl
  refine lv_aload_n hx hb dX7_drift_0 rfl (lv_at hl 0 rfl) ?_
  refine g_f hw hf (by decide) (c_O E _) rfl inlX7 0 (by decide) rfl q23 rfl dX7_drift_1 ?_
  refine lv_iload_n hx hb dX7_drift_4 rfl (lv_at hl 1 rfl) ?_
  refine c_q hw (run_V (As := [.int (a)]) (rest := []) (np := 1) hf hw (k_X4_sensorAt l E _ (by decide) a  ) ⟨gl_V q220 q221 q222 q22 q223, by decide +kernel⟩ ⟨rfl, rfl, Nat.le_of_ble_eq_true rfl, Nat.le_of_ble_eq_true rfl⟩ (lt_iS (by decide)) (c_iS E _ (by decide)) rfl rfl hl.1 rfl (Nat.le_of_ble_eq_true rfl) dX7_drift_5 ⟨Nat.zero_le _, Nat.zero_le _⟩) (fun H locs hw => ?_)
  rcases o1 : sp_X4_sensorAt (μ.1 0)  a with _ | t2
  · refine W.eq (g2 := F0 m 8 ls [.null]) rfl ?_
    refine lv_astore_nN (lv' := [(3, .null), (0, .ref (E.1 (231))), (1, .int (a)), (2, .int (b))]) hx hb dX7_drift_8 rfl hl (by decide) rfl (fun ls hl => ?_)
    refine lv_aload_nN hx hb dX7_drift_9 rfl (lv_at hl 0 rfl) ?_
    refine lv_ifnullN (tgt := 27) hx hb dX7_drift_10 (by decide) ?_
    refine lv_ldc hx hb hf.2.2.2.1 (hf.2.2.2.2 _ q113) dX7_drift_27 ?_
    exact e_i hf hr hlocks hw rfl ((oc_none o1).trans rfl) dX7_drift_29
  · have ht3 : t2 < 6 := (b_X4_sensorAt o1)
    refine W.eq (g2 := F0 m 8 ls [.ref (E.1 (iN 0 t2))]) rfl ?_
    refine lv_astore_n (lv' := [(3, .ref (E.1 (iN 0 t2))), (0, .ref (E.1 (231))), (1, .int (a)), (2, .int (b))]) hx hb dX7_drift_8 rfl hl (by decide) rfl (fun ls hl => ?_)
    refine lv_aload_n hx hb dX7_drift_9 rfl (lv_at hl 0 rfl) ?_
    refine lv_ifnull hx hb dX7_drift_10 ?_
    refine lv_iload_n hx hb dX7_drift_13 rfl (lv_at hl 3 rfl) ?_
    refine lv_i2l hx hb dX7_drift_14 rfl ?_
    refine lv_ldc2 hx hb hf.2.2.2.1 (hf.2.2.2.2 _ q555) dX7_drift_15 ?_
    refine lv_ldc2 hx hb hf.2.2.2.1 (hf.2.2.2.2 _ q556) dX7_drift_18 ?_
    refine c_iR hw (run_S (As := [.long (b.toInt64), .long ((-100000)), .long (100000)]) (rest := []) (np := 3) hf hw (kn_X7_isWithin l E _  (b.toInt64) ((-100000) : Int64) (100000 : Int64)  ) ⟨gl_S q114 q115 q2 q116, by decide +kernel⟩ ⟨rfl, rfl, Nat.le_of_ble_eq_true rfl, Nat.le_of_ble_eq_true rfl⟩ rfl hl.1 rfl (Nat.le_of_ble_eq_true rfl) dX7_drift_21 ⟨Nat.zero_le _, Nat.zero_le _⟩) (fun H locs hw => ?_)
    refine lv_if_ne (tgt := 30) hx hb dX7_drift_24 (by decide) (fun c4 => ?_) (fun c4 => ?_)
    · replace c4 := (bz_n0 _).mp c4
      refine lv_aload_n hx hb dX7_drift_30 rfl (lv_at hl 0 rfl) ?_
      refine g_f hw hf (lt_iN (by decide) ht3) (c_iN E _ (by decide) ht3) rfl inlX3 2 (by decide) rfl q210 rfl dX7_drift_31 ?_
      refine lv_i2l hx hb dX7_drift_34 rfl ?_
      refine lv_ldc2 hx hb hf.2.2.2.1 (hf.2.2.2.2 _ q557) dX7_drift_35 ?_
      refine lv_iload_n hx hb dX7_drift_38 rfl (lv_at hl 3 rfl) ?_
      refine lv_i2l hx hb dX7_drift_39 rfl ?_
      refine lv_ladd hx hb dX7_drift_40 ?_
      refine lv_lmul hx hb dX7_drift_41 ?_
      refine lv_ldc2 hx hb hf.2.2.2.1 (hf.2.2.2.2 _ q557) dX7_drift_42 ?_
      refine lv_ldiv hx hb dX7_drift_45 (by decide) ?_
      refine lv_lstore (lv' := [(4, .long ((((μ.1 0 (sF t2 2)).toInt64) * (1000000 + (b.toInt64))) / 1000000)), (3, .ref (E.1 (iN 0 t2))), (0, .ref (E.1 (231))), (1, .int (a)), (2, .int (b))]) hx hb dX7_drift_46 hl (by decide) rfl (fun ls hl => ?_)
      refine lv_lload hx hb dX7_drift_48 (lv_at hl 0 rfl) ?_
      refine c_iR hw (run_S (As := [.long ((((μ.1 0 (sF t2 2)).toInt64) * (1000000 + (b.toInt64))) / 1000000)]) (rest := []) (np := 1) hf hw (kn_X7_isBase l E _  ((((μ.1 0 (sF t2 2)).toInt64) * (1000000 + (b.toInt64))) / 1000000)  ) ⟨gl_S q448 q449 q2 q450, by decide +kernel⟩ ⟨rfl, rfl, Nat.le_of_ble_eq_true rfl, Nat.le_of_ble_eq_true rfl⟩ rfl hl.1 rfl (Nat.le_of_ble_eq_true rfl) dX7_drift_50 ⟨Nat.zero_le _, Nat.zero_le _⟩) (fun H locs hw => ?_)
      refine lv_if_ne (tgt := 59) hx hb dX7_drift_53 (by decide) (fun c5 => ?_) (fun c5 => ?_)
      · replace c5 := (bz_n0 _).mp c5
        refine lv_aload_n hx hb dX7_drift_59 rfl (lv_at hl 2 rfl) ?_
        refine g_f hw hf (by decide) (c_O E _) rfl inlX7 2 (by decide) rfl q28 rfl dX7_drift_60 ?_
        refine lv_aload_n hx hb dX7_drift_63 rfl (lv_at hl 2 rfl) ?_
        refine g_f hw hf (by decide) (c_O E _) rfl inlX7 0 (by decide) rfl q23 rfl dX7_drift_64 ?_
        refine c_v hw (run_V (As := [.ref (E.1 (iS 0))]) (rest := []) (np := 1) hf hw (k_X0_record l E _    hK) ⟨gl_V q392 q393 q394 q27 q395, by decide +kernel⟩ ⟨rfl, rfl, Nat.le_of_ble_eq_true rfl, Nat.le_of_ble_eq_true rfl⟩ (by decide) (c_Hi E _) rfl rfl hl.1 rfl (Nat.le_of_ble_eq_true rfl) dX7_drift_67 ⟨Nat.zero_le _, Nat.zero_le _⟩) (fun H locs hw => ?_)
        refine lv_aload_n hx hb dX7_drift_70 rfl (lv_at hl 1 rfl) ?_
        refine lv_lload hx hb dX7_drift_71 (lv_at hl 0 rfl) ?_
        refine lv_l2i hx hb dX7_drift_73 rfl ?_
        refine p_f hw hf (lt_iN (by decide) ht3) (c_iN E _ (by decide) ht3) rfl inlX3 tyX3_ok nmX3 2 (by decide) rfl q210 rfl rfl rfl (Nat.le_of_ble_eq_true rfl) (s_N_2 E _ (by decide) ht3 _) dX7_drift_74 (fun H locs hw => ?_)
        refine lv_aload_n hx hb dX7_drift_77 rfl (lv_at hl 1 rfl) ?_
        refine g_f hw hf (lt_iN (by decide) ht3) (c_iN E _ (by decide) ht3) rfl inlX3 2 (by decide) rfl q210 (congrArg (fun z => some (Value.int z)) (show _ = ((((μ.1 0 (sF t2 2)).toInt64) * (1000000 + (b.toInt64))) / 1000000).toInt32 from (by first | (simp [pM, pJ, upM, upJ, sF, tN, tD, tR, tk_M, tk_K, tk_0, tk_1, tk_2, tk_3, tk_4, tk_5, tk_6, tk_7, tk_8, tk_9, tk_10, tk_o, ms_0_0, ms_0_1, ms_0_2, ms_0_3, ms_0_4, ms_0_5, ms_0_6, ms_0_7, ms_0_8, ms_0_9, ms_0_10, ms_1_0, ms_1_1, ms_1_2, ms_1_3, ms_1_4, ms_1_5, ms_1_6, ms_1_7, ms_1_8, ms_1_9, ms_1_10, ms_w, ms_r, ms_d, ms_M, ms_6, ms_K]; done) | (simp (disch := (first | omega | (simp only [tN, tD, tR, sF]; omega))) only [pM, pJ, upM_s, upM_k, upM_c, upJ_s, upJ_k, upJ_c, tk_M, tk_K, tk_0, tk_1, tk_2, tk_3, tk_4, tk_5, tk_6, tk_7, tk_8, tk_9, tk_10, tk_o, ms_0_0, ms_0_1, ms_0_2, ms_0_3, ms_0_4, ms_0_5, ms_0_6, ms_0_7, ms_0_8, ms_0_9, ms_0_10, ms_1_0, ms_1_1, ms_1_2, ms_1_3, ms_1_4, ms_1_5, ms_1_6, ms_1_7, ms_1_8, ms_1_9, ms_1_10, ms_w, ms_r, ms_d, ms_M, ms_6, ms_K])))) dX7_drift_78 ?_
        exact e_i hf hr hlocks hw rfl ((oc_some o1).trans ((if_pos c4).trans ((if_pos c5).trans rfl))) dX7_drift_81
      · replace c5 := (bz_0 _).mp c5
        refine lv_ldc hx hb hf.2.2.2.1 (hf.2.2.2.2 _ q429) dX7_drift_56 ?_
        exact e_i hf hr hlocks hw rfl ((oc_some o1).trans ((if_pos c4).trans ((if_neg c5).trans rfl))) dX7_drift_58
    · replace c4 := (bz_0 _).mp c4
      refine lv_ldc hx hb hf.2.2.2.1 (hf.2.2.2.2 _ q113) dX7_drift_27 ?_
      exact e_i hf hr hlocks hw rfl ((oc_some o1).trans ((if_neg c4).trans rfl)) dX7_drift_29
def sp_X7_limits (μ : Mu)  (a : Int32) (b : Int32) (d : Int32) (g : Int32) : Int32 × Mu :=
  oc (sp_X4_sensorAt (μ.1 0)  a) (
    ((-2000000001), μ)) (fun t2 =>
    if (-200000 : Int64) ≤ b.toInt64 ∧ b.toInt64 ≤ 850000 then
      if (b.toInt64) ≤ (d.toInt64) ∧ (d.toInt64) ≤ (850000 : Int64) then
        if (0 : Int64) ≤ (g.toInt64) ∧ (g.toInt64) ≤ (100000 : Int64) then
          ((sp_X0_record μ  ).1 0 (sF t2 10), sp_X3_watch (sp_X0_record μ  ) 0 t2 b d g)
        else
          ((-2000000001), μ)
      else
        ((-2000000001), μ)
    else
      ((-2000000001), μ))
def sp_X7_undo (μ : Mu)   : Int32 × Mu :=
  if (μ.1 6 0 : Int32) = 0 then
    ((-2000000002), μ)
  else
    ((sp_X0_restore μ  ).1 6 0, sp_X0_restore μ  )
set_option maxHeartbeats 4000000 in
set_option maxRecDepth 100000 in
theorem k_X7_undo (l : Launch) (E : En) (μ : Mu)   (hK : KOk μ.2.2) : MtI l yX7_undo cX7_undo 1 .int ({ frames := 4, cells := 0, slots := 0, locals := 104 }) [.ref (E.1 (231))] E μ (sp_X7_undo μ ) := by
  refine mt_of (by decide +kernel) (Nat.le_of_ble_eq_true rfl) ?_
  intro p e s m args below meth c ls hf hr hlocks hl hw
  have hx := hf.1
  have hb := hf.2.1
  have hl : lv_has ls 1 [(0, .ref (E.1 (231)))] := hl
  refine lv_aload_n hx hb dX7_undo_0 rfl (lv_at hl 0 rfl) ?_
  refine g_f hw hf (by decide) (c_O E _) rfl inlX7 2 (by decide) rfl q28 rfl dX7_undo_1 ?_
  refine g_f hw hf (by decide) (c_Hi E _) rfl inlX0 0 (by decide) rfl q111 rfl dX7_undo_4 ?_
  refine lv_if_ne (tgt := 13) hx hb dX7_undo_7 (by decide) (fun c1 => ?_) (fun c1 => ?_)
  · refine lv_aload_n hx hb dX7_undo_13 rfl (lv_at hl 0 rfl) ?_
    refine g_f hw hf (by decide) (c_O E _) rfl inlX7 2 (by decide) rfl q28 rfl dX7_undo_14 ?_
    refine lv_aload_n hx hb dX7_undo_17 rfl (lv_at hl 0 rfl) ?_
    refine g_f hw hf (by decide) (c_O E _) rfl inlX7 0 (by decide) rfl q23 rfl dX7_undo_18 ?_
    refine c_v hw (run_V (As := [.ref (E.1 (iS 0))]) (rest := []) (np := 1) hf hw (k_X0_restore l E _    hK) ⟨gl_V q499 q500 q501 q27 q502, by decide +kernel⟩ ⟨rfl, rfl, Nat.le_of_ble_eq_true rfl, Nat.le_of_ble_eq_true rfl⟩ (by decide) (c_Hi E _) rfl rfl hl.1 rfl (Nat.le_of_ble_eq_true rfl) dX7_undo_21 ⟨Nat.zero_le _, Nat.zero_le _⟩) (fun H locs hw => ?_)
    refine lv_aload_n hx hb dX7_undo_24 rfl (lv_at hl 0 rfl) ?_
    refine g_f hw hf (by decide) (c_O E _) rfl inlX7 2 (by decide) rfl q28 rfl dX7_undo_25 ?_
    refine g_f hw hf (by decide) (c_Hi E _) rfl inlX0 0 (by decide) rfl q111 rfl dX7_undo_28 ?_
    exact e_i hf hr hlocks hw rfl ((if_neg c1).trans rfl) dX7_undo_31
  · refine lv_ldc hx hb hf.2.2.2.1 (hf.2.2.2.2 _ q429) dX7_undo_10 ?_
    exact e_i hf hr hlocks hw rfl ((if_pos c1).trans rfl) dX7_undo_12
def sp_X7_clearText (μ : Mu)   : Int32 × Mu :=
  (μ.1 6 3, pM μ 6 3 (0 : Int32))
