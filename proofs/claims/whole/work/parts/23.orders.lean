/-! ===== OhmBridge: orders ===== -/
def sp_X7_obeyBath (μ : Mu) (n : Nat)  : Int32 × Mu :=
  if (sp_X4_canBring (μ.1 1) n (μ.1 6 6) : Int32) = 0 then
    (3, μ)
  else
    (0, pM μ 1 (sF n 4) (μ.1 6 6))
set_option maxHeartbeats 4000000 in
set_option maxRecDepth 100000 in
theorem k_X7_obeyBath (l : Launch) (E : En) (μ : Mu) {n : Nat} (hn : n < 6)   : MtI l yX7_obeyBath cX7_obeyBath 2 .int ({ frames := 3, cells := 0, slots := 0, locals := 65 }) [.ref (E.1 (231)), .ref (E.1 (iN 1 n))] E μ (sp_X7_obeyBath μ n) := by
  refine mt_of (by decide +kernel) (Nat.le_of_ble_eq_true rfl) ?_
  intro p e s m args below meth c ls hf hr hlocks hl hw
  have hx := hf.1
  have hb := hf.2.1
  have hl : lv_has ls 2 [(0, .ref (E.1 (231))), (1, .ref (E.1 (iN 1 n)))] := hl
  refine lv_aload_n hx hb dX7_obeyBath_0 rfl (lv_at hl 0 rfl) ?_
  refine g_f hw hf (by decide) (c_O E _) rfl inlX7 1 (by decide) rfl q16 rfl dX7_obeyBath_1 ?_
  refine lv_aload_n hx hb dX7_obeyBath_4 rfl (lv_at hl 1 rfl) ?_
  refine lv_aload_n hx hb dX7_obeyBath_5 rfl (lv_at hl 0 rfl) ?_
  refine g_f hw hf (by decide) (c_O E _) rfl inlX7 5 (by decide) rfl q32 rfl dX7_obeyBath_6 ?_
  refine g_f hw hf (by decide) (c_Tx E _) rfl inlX6 3 (by decide) rfl q979 rfl dX7_obeyBath_9 ?_
  refine c_iR hw (run_V (As := [.ref (E.1 (iN 1 n)), .int (μ.1 6 6)]) (rest := []) (np := 2) hf hw (k_X4_canBring l E _ (by decide) hn (μ.1 6 6)  ) ⟨gl_V q402 q403 q404 q14 q405, by decide +kernel⟩ ⟨rfl, rfl, Nat.le_of_ble_eq_true rfl, Nat.le_of_ble_eq_true rfl⟩ (lt_iS (by decide)) (c_iS E _ (by decide)) rfl rfl hl.1 rfl (Nat.le_of_ble_eq_true rfl) dX7_obeyBath_12 ⟨Nat.zero_le _, Nat.zero_le _⟩) (fun H locs hw => ?_)
  refine lv_if_ne (tgt := 20) hx hb dX7_obeyBath_15 (by decide) (fun c1 => ?_) (fun c1 => ?_)
  · refine lv_aload_n hx hb dX7_obeyBath_20 rfl (lv_at hl 1 rfl) ?_
    refine lv_aload_n hx hb dX7_obeyBath_21 rfl (lv_at hl 0 rfl) ?_
    refine g_f hw hf (by decide) (c_O E _) rfl inlX7 5 (by decide) rfl q32 rfl dX7_obeyBath_22 ?_
    refine g_f hw hf (by decide) (c_Tx E _) rfl inlX6 3 (by decide) rfl q979 rfl dX7_obeyBath_25 ?_
    refine p_f hw hf (lt_iN (by decide) hn) (c_iN E _ (by decide) hn) rfl inlX3 tyX3_ok nmX3 4 (by decide) rfl q401 rfl rfl rfl (Nat.le_of_ble_eq_true rfl) (s_N_4 E _ (by decide) hn _) dX7_obeyBath_28 (fun H locs hw => ?_)
    refine lv_iconst (v := 0) hx hb dX7_obeyBath_31 (by decide) ?_
    exact e_i hf hr hlocks hw rfl ((if_neg c1).trans rfl) dX7_obeyBath_32
  · refine lv_iconst (v := 3) hx hb dX7_obeyBath_18 (by decide) ?_
    exact e_i hf hr hlocks hw rfl ((if_pos c1).trans rfl) dX7_obeyBath_19
def sp_X7_obeyCut (μ : Mu) (n : Nat)  : Int32 × Mu :=
  if 0 ≤ (μ.1 6 6) ∧ (μ.1 6 6) < (μ.1 1 (sF n 1)) then
    if (μ.1 6 4 : Int32) = 98 then
      if (bz ((μ.1 1 (sF n 5)) >>> ((μ.1 6 6) &&& 31) &&& 1 = 1) : Int32) = 1 then
        (3, μ)
      else
        (0, sp_X3_turnWire μ 1 n (μ.1 6 6))
    else
      if (μ.1 1 (sF n 5)) >>> ((μ.1 6 6) &&& 31) &&& 1 = 1 then
        (0, sp_X3_turnWire μ 1 n (μ.1 6 6))
      else
        (3, μ)
  else
    (2, μ)
set_option maxHeartbeats 4000000 in
set_option maxRecDepth 100000 in
theorem k_X7_obeyCut (l : Launch) (E : En) (μ : Mu) {n : Nat} (hn : n < 6)   : MtI l yX7_obeyCut cX7_obeyCut 2 .int ({ frames := 1, cells := 0, slots := 0, locals := 21 }) [.ref (E.1 (231)), .ref (E.1 (iN 1 n))] E μ (sp_X7_obeyCut μ n) := by
  refine mt_of (by decide +kernel) (Nat.le_of_ble_eq_true rfl) ?_
  intro p e s m args below meth c ls hf hr hlocks hl hw
  have hx := hf.1
  have hb := hf.2.1
  have hl : lv_has ls 2 [(0, .ref (E.1 (231))), (1, .ref (E.1 (iN 1 n)))] := hl
  refine lv_aload_n hx hb dX7_obeyCut_0 rfl (lv_at hl 1 rfl) ?_
  refine lv_aload_n hx hb dX7_obeyCut_1 rfl (lv_at hl 0 rfl) ?_
  refine g_f hw hf (by decide) (c_O E _) rfl inlX7 5 (by decide) rfl q32 rfl dX7_obeyCut_2 ?_
  refine g_f hw hf (by decide) (c_Tx E _) rfl inlX6 3 (by decide) rfl q979 rfl dX7_obeyCut_5 ?_
  refine c_iR hw (run_V (As := [.int (μ.1 6 6)]) (rest := []) (np := 1) hf hw (kn_X3_hasWire l E _ (by decide) hn (μ.1 6 6)  ) ⟨gl_V q421 q422 q423 q48 q424, by decide +kernel⟩ ⟨rfl, rfl, Nat.le_of_ble_eq_true rfl, Nat.le_of_ble_eq_true rfl⟩ (lt_iN (by decide) hn) (c_iN E _ (by decide) hn) rfl rfl hl.1 rfl (Nat.le_of_ble_eq_true rfl) dX7_obeyCut_8 ⟨Nat.zero_le _, Nat.zero_le _⟩) (fun H locs hw => ?_)
  refine lv_if_ne (tgt := 16) hx hb dX7_obeyCut_11 (by decide) (fun c1 => ?_) (fun c1 => ?_)
  · replace c1 := (bz_n0 _).mp c1
    refine lv_aload_n hx hb dX7_obeyCut_16 rfl (lv_at hl 1 rfl) ?_
    refine lv_aload_n hx hb dX7_obeyCut_17 rfl (lv_at hl 0 rfl) ?_
    refine g_f hw hf (by decide) (c_O E _) rfl inlX7 5 (by decide) rfl q32 rfl dX7_obeyCut_18 ?_
    refine g_f hw hf (by decide) (c_Tx E _) rfl inlX6 3 (by decide) rfl q979 rfl dX7_obeyCut_21 ?_
    refine c_iR hw (run_V (As := [.int (μ.1 6 6)]) (rest := []) (np := 1) hf hw (kn_X3_isBroken l E _ (by decide) hn (μ.1 6 6)  ) ⟨gl_V q469 q470 q471 q48 q472, by decide +kernel⟩ ⟨rfl, rfl, Nat.le_of_ble_eq_true rfl, Nat.le_of_ble_eq_true rfl⟩ (lt_iN (by decide) hn) (c_iN E _ (by decide) hn) rfl rfl hl.1 rfl (Nat.le_of_ble_eq_true rfl) dX7_obeyCut_24 ⟨Nat.zero_le _, Nat.zero_le _⟩) (fun H locs hw => ?_)
    refine lv_aload_n hx hb dX7_obeyCut_27 rfl (lv_at hl 0 rfl) ?_
    refine g_f hw hf (by decide) (c_O E _) rfl inlX7 5 (by decide) rfl q32 rfl dX7_obeyCut_28 ?_
    refine g_f hw hf (by decide) (c_Tx E _) rfl inlX6 1 (by decide) rfl q973 rfl dX7_obeyCut_31 ?_
    refine lv_bipush (v := 98) hx hb dX7_obeyCut_34 (by decide) ?_
    refine lv_icmp_ne (tgt := 43) hx hb dX7_obeyCut_36 (by decide) (fun c2 => ?_) (fun c2 => ?_)
    · refine lv_iconst (v := 0) hx hb dX7_obeyCut_43 (by decide) ?_
      refine lv_icmp_ne (tgt := 49) hx hb dX7_obeyCut_44 (by decide) (fun c3 => ?_) (fun c3 => ?_)
      · replace c3 := (bz_n0 _).mp c3
        refine lv_aload_n hx hb dX7_obeyCut_49 rfl (lv_at hl 1 rfl) ?_
        refine lv_aload_n hx hb dX7_obeyCut_50 rfl (lv_at hl 0 rfl) ?_
        refine g_f hw hf (by decide) (c_O E _) rfl inlX7 5 (by decide) rfl q32 rfl dX7_obeyCut_51 ?_
        refine g_f hw hf (by decide) (c_Tx E _) rfl inlX6 3 (by decide) rfl q979 rfl dX7_obeyCut_54 ?_
        refine c_v hw (run_V (As := [.int (μ.1 6 6)]) (rest := []) (np := 1) hf hw (k_X3_turnWire l E _ (by decide) hn (μ.1 6 6)  ) ⟨gl_V q473 q474 q475 q48 q476, by decide +kernel⟩ ⟨rfl, rfl, Nat.le_of_ble_eq_true rfl, Nat.le_of_ble_eq_true rfl⟩ (lt_iN (by decide) hn) (c_iN E _ (by decide) hn) rfl rfl hl.1 rfl (Nat.le_of_ble_eq_true rfl) dX7_obeyCut_57 ⟨Nat.zero_le _, Nat.zero_le _⟩) (fun H locs hw => ?_)
        refine lv_iconst (v := 0) hx hb dX7_obeyCut_60 (by decide) ?_
        exact e_i hf hr hlocks hw rfl ((if_pos c1).trans ((if_neg c2).trans ((if_pos c3).trans rfl))) dX7_obeyCut_61
      · replace c3 := (bz_0 _).mp c3
        refine lv_iconst (v := 3) hx hb dX7_obeyCut_47 (by decide) ?_
        exact e_i hf hr hlocks hw rfl ((if_pos c1).trans ((if_neg c2).trans ((if_neg c3).trans rfl))) dX7_obeyCut_48
    · refine lv_iconst (v := 1) hx hb dX7_obeyCut_39 (by decide) ?_
      refine lv_goto (tgt := 44) hx hb dX7_obeyCut_40 (by decide) ?_
      refine lv_icmp_ne (tgt := 49) hx hb dX7_obeyCut_44 (by decide) (fun c4 => ?_) (fun c4 => ?_)
      · refine lv_aload_n hx hb dX7_obeyCut_49 rfl (lv_at hl 1 rfl) ?_
        refine lv_aload_n hx hb dX7_obeyCut_50 rfl (lv_at hl 0 rfl) ?_
        refine g_f hw hf (by decide) (c_O E _) rfl inlX7 5 (by decide) rfl q32 rfl dX7_obeyCut_51 ?_
        refine g_f hw hf (by decide) (c_Tx E _) rfl inlX6 3 (by decide) rfl q979 rfl dX7_obeyCut_54 ?_
        refine c_v hw (run_V (As := [.int (μ.1 6 6)]) (rest := []) (np := 1) hf hw (k_X3_turnWire l E _ (by decide) hn (μ.1 6 6)  ) ⟨gl_V q473 q474 q475 q48 q476, by decide +kernel⟩ ⟨rfl, rfl, Nat.le_of_ble_eq_true rfl, Nat.le_of_ble_eq_true rfl⟩ (lt_iN (by decide) hn) (c_iN E _ (by decide) hn) rfl rfl hl.1 rfl (Nat.le_of_ble_eq_true rfl) dX7_obeyCut_57 ⟨Nat.zero_le _, Nat.zero_le _⟩) (fun H locs hw => ?_)
        refine lv_iconst (v := 0) hx hb dX7_obeyCut_60 (by decide) ?_
        exact e_i hf hr hlocks hw rfl ((if_pos c1).trans ((if_pos c2).trans ((if_neg c4).trans rfl))) dX7_obeyCut_61
      · refine lv_iconst (v := 3) hx hb dX7_obeyCut_47 (by decide) ?_
        exact e_i hf hr hlocks hw rfl ((if_pos c1).trans ((if_pos c2).trans ((if_pos c4).trans rfl))) dX7_obeyCut_48
  · replace c1 := (bz_0 _).mp c1
    refine lv_iconst (v := 2) hx hb dX7_obeyCut_14 (by decide) ?_
    exact e_i hf hr hlocks hw rfl ((if_neg c1).trans rfl) dX7_obeyCut_15
def sp_X7_obey (μ : Mu)   : Int32 × Mu :=
  if (μ.1 6 4 : Int32) = 115 then
    oc (sp_X4_sensorAt (μ.1 1)  (sp_X4_nextPlugged (μ.1 1)  )) (
      (3, μ)) (fun t15 =>
      if (μ.1 6 4 : Int32) = 116 then
        ((sp_X7_obeyBath μ t15 ).1, (sp_X7_obeyBath μ t15 ).2)
      else
        if (μ.1 6 4 : Int32) = 98 then
          ((sp_X7_obeyCut μ t15 ).1, (sp_X7_obeyCut μ t15 ).2)
        else
          if (μ.1 6 4 : Int32) = 109 then
            ((sp_X7_obeyCut μ t15 ).1, (sp_X7_obeyCut μ t15 ).2)
          else
            if (dgn ((pM μ 1 2 (μ.1 1 (sF t15 6))).1 1) t15 : Int32) = 0 then
              (0, sp_X3_log (msr (pM μ 1 2 (μ.1 1 (sF t15 6))) 1 t15) 1 t15 (rdg ((pM μ 1 2 (μ.1 1 (sF t15 6))).1 1) t15))
            else
              (0, msr (pM μ 1 2 (μ.1 1 (sF t15 6))) 1 t15))
  else
    oc (sp_X4_sensorAt (μ.1 1)  (μ.1 6 5)) (
      (2, μ)) (fun t4 =>
      if (μ.1 6 4 : Int32) = 116 then
        ((sp_X7_obeyBath μ t4 ).1, (sp_X7_obeyBath μ t4 ).2)
      else
        if (μ.1 6 4 : Int32) = 98 then
          ((sp_X7_obeyCut μ t4 ).1, (sp_X7_obeyCut μ t4 ).2)
        else
          if (μ.1 6 4 : Int32) = 109 then
            ((sp_X7_obeyCut μ t4 ).1, (sp_X7_obeyCut μ t4 ).2)
          else
            if (dgn (μ.1 1) t4 : Int32) = 0 then
              (0, sp_X3_log (msr μ 1 t4) 1 t4 (rdg (μ.1 1) t4))
            else
              (3, msr μ 1 t4))
set_option maxHeartbeats 4000000 in
set_option maxRecDepth 100000 in
theorem k_X7_obey (l : Launch) (E : En) (μ : Mu)    : MtI l yX7_obey cX7_obey 3 .int ({ frames := 4, cells := 0, slots := 0, locals := 111 }) [.ref (E.1 (231))] E μ (sp_X7_obey μ ) := by
  refine mt_of (by decide +kernel) (Nat.le_of_ble_eq_true rfl) ?_
  intro p e s m args below meth c ls hf hr hlocks hl hw
  have hx := hf.1
  have hb := hf.2.1
  have hl : lv_has ls 3 [(0, .ref (E.1 (231)))] := hl
  refine lv_aload_n hx hb dX7_obey_0 rfl (lv_at hl 0 rfl) ?_
  refine g_f hw hf (by decide) (c_O E _) rfl inlX7 5 (by decide) rfl q32 rfl dX7_obey_1 ?_
  refine g_f hw hf (by decide) (c_Tx E _) rfl inlX6 1 (by decide) rfl q973 rfl dX7_obey_4 ?_
  refine lv_bipush (v := 115) hx hb dX7_obey_7 (by decide) ?_
  refine lv_icmp_ne (tgt := 16) hx hb dX7_obey_9 (by decide) (fun c1 => ?_) (fun c1 => ?_)
  · refine lv_iconst (v := 0) hx hb dX7_obey_16 (by decide) ?_
    refine lv_istore_n (lv' := [(1, .int 0), (0, .ref (E.1 (231)))]) hx hb dX7_obey_17 rfl hl (by decide) rfl (fun ls hl => ?_)
    refine lv_aload_n hx hb dX7_obey_18 rfl (lv_at hl 1 rfl) ?_
    refine g_f hw hf (by decide) (c_O E _) rfl inlX7 1 (by decide) rfl q16 rfl dX7_obey_19 ?_
    refine lv_iload_n hx hb dX7_obey_22 rfl (lv_at hl 0 rfl) ?_
    refine lv_if_eq (tgt := 36) hx hb dX7_obey_23 (by decide) (fun _ => ?_) (fun c => absurd c (by decide))
    refine lv_aload_n hx hb dX7_obey_36 rfl (lv_at hl 1 rfl) ?_
    refine g_f hw hf (by decide) (c_O E _) rfl inlX7 5 (by decide) rfl q32 rfl dX7_obey_37 ?_
    refine g_f hw hf (by decide) (c_Tx E _) rfl inlX6 2 (by decide) rfl q974 rfl dX7_obey_40 ?_
    refine c_q hw (run_V (As := [.int (μ.1 6 5)]) (rest := []) (np := 1) hf hw (k_X4_sensorAt l E _ (by decide) (μ.1 6 5)  ) ⟨gl_V q305 q306 q307 q14 q308, by decide +kernel⟩ ⟨rfl, rfl, Nat.le_of_ble_eq_true rfl, Nat.le_of_ble_eq_true rfl⟩ (lt_iS (by decide)) (c_iS E _ (by decide)) rfl rfl hl.1 rfl (Nat.le_of_ble_eq_true rfl) dX7_obey_43 ⟨Nat.zero_le _, Nat.zero_le _⟩) (fun H locs hw => ?_)
    rcases o3 : sp_X4_sensorAt (μ.1 1)  (μ.1 6 5) with _ | t4
    · refine W.eq (g2 := F0 m 46 ls [.null]) rfl ?_
      refine lv_astore_nN (lv' := [(2, .null), (1, .int 0), (0, .ref (E.1 (231)))]) hx hb dX7_obey_46 rfl hl (by decide) rfl (fun ls hl => ?_)
      refine lv_aload_nN hx hb dX7_obey_47 rfl (lv_at hl 0 rfl) ?_
      refine lv_ifnonnullN hx hb dX7_obey_48 ?_
      refine lv_iload_n hx hb dX7_obey_51 rfl (lv_at hl 1 rfl) ?_
      refine lv_if_eq (tgt := 59) hx hb dX7_obey_52 (by decide) (fun _ => ?_) (fun c => absurd c (by decide))
      refine lv_iconst (v := 2) hx hb dX7_obey_59 (by decide) ?_
      exact e_i hf hr hlocks hw rfl ((if_neg c1).trans ((oc_none o3).trans rfl)) dX7_obey_60
    · have ht6 : t4 < 6 := (b_X4_sensorAt o3)
      refine W.eq (g2 := F0 m 46 ls [.ref (E.1 (iN 1 t4))]) rfl ?_
      refine lv_astore_n (lv' := [(2, .ref (E.1 (iN 1 t4))), (1, .int 0), (0, .ref (E.1 (231)))]) hx hb dX7_obey_46 rfl hl (by decide) rfl (fun ls hl => ?_)
      refine lv_aload_n hx hb dX7_obey_47 rfl (lv_at hl 0 rfl) ?_
      refine lv_ifnonnull (tgt := 61) hx hb dX7_obey_48 (by decide) ?_
      refine lv_aload_n hx hb dX7_obey_61 rfl (lv_at hl 2 rfl) ?_
      refine g_f hw hf (by decide) (c_O E _) rfl inlX7 5 (by decide) rfl q32 rfl dX7_obey_62 ?_
      refine g_f hw hf (by decide) (c_Tx E _) rfl inlX6 1 (by decide) rfl q973 rfl dX7_obey_65 ?_
      refine lv_bipush (v := 116) hx hb dX7_obey_68 (by decide) ?_
      refine lv_icmp_ne (tgt := 79) hx hb dX7_obey_70 (by decide) (fun c7 => ?_) (fun c7 => ?_)
      · refine lv_aload_n hx hb dX7_obey_79 rfl (lv_at hl 2 rfl) ?_
        refine g_f hw hf (by decide) (c_O E _) rfl inlX7 5 (by decide) rfl q32 rfl dX7_obey_80 ?_
        refine g_f hw hf (by decide) (c_Tx E _) rfl inlX6 1 (by decide) rfl q973 rfl dX7_obey_83 ?_
        refine lv_bipush (v := 98) hx hb dX7_obey_86 (by decide) ?_
        refine lv_icmp_eq (tgt := 103) hx hb dX7_obey_88 (by decide) (fun c8 => ?_) (fun c8 => ?_)
        · refine lv_aload_n hx hb dX7_obey_103 rfl (lv_at hl 2 rfl) ?_
          refine lv_aload_n hx hb dX7_obey_104 rfl (lv_at hl 0 rfl) ?_
          refine c_i hw (run_V (As := [.ref (E.1 (iN 1 t4))]) (rest := []) (np := 1) hf hw (k_X7_obeyCut l E _ ht6   ) ⟨gl_V q980 q981 q982 q2 q983, by decide +kernel⟩ ⟨rfl, rfl, Nat.le_of_ble_eq_true rfl, Nat.le_of_ble_eq_true rfl⟩ (by decide) (c_O E _) rfl rfl hl.1 rfl (Nat.le_of_ble_eq_true rfl) dX7_obey_105 ⟨Nat.zero_le _, Nat.zero_le _⟩) (fun H locs hw => ?_)
          exact e_i hf hr hlocks hw rfl ((if_neg c1).trans ((oc_some o3).trans ((if_neg c7).trans ((if_pos c8).trans rfl)))) dX7_obey_108
        · refine lv_aload_n hx hb dX7_obey_91 rfl (lv_at hl 2 rfl) ?_
          refine g_f hw hf (by decide) (c_O E _) rfl inlX7 5 (by decide) rfl q32 rfl dX7_obey_92 ?_
          refine g_f hw hf (by decide) (c_Tx E _) rfl inlX6 1 (by decide) rfl q973 rfl dX7_obey_95 ?_
          refine lv_bipush (v := 109) hx hb dX7_obey_98 (by decide) ?_
          refine lv_icmp_ne (tgt := 109) hx hb dX7_obey_100 (by decide) (fun c9 => ?_) (fun c9 => ?_)
          · refine lv_iload_n hx hb dX7_obey_109 rfl (lv_at hl 1 rfl) ?_
            refine lv_if_eq (tgt := 124) hx hb dX7_obey_110 (by decide) (fun _ => ?_) (fun c => absurd c (by decide))
            refine lv_aload_n hx hb dX7_obey_124 rfl (lv_at hl 2 rfl) ?_
            refine g_f hw hf (by decide) (c_O E _) rfl inlX7 3 (by decide) rfl q24 rfl dX7_obey_125 ?_
            refine lv_aload_n hx hb dX7_obey_128 rfl (lv_at hl 2 rfl) ?_
            refine g_f hw hf (by decide) (c_O E _) rfl inlX7 1 (by decide) rfl q16 rfl dX7_obey_129 ?_
            refine lv_aload_n hx hb dX7_obey_132 rfl (lv_at hl 0 rfl) ?_
            refine c_v hw (run_V (As := [.ref (E.1 (iS 1)), .ref (E.1 (iN 1 t4))]) (rest := []) (np := 2) hf hw (kn_X2_measure l E _ (by decide) ht6  (by decide) ) ⟨gl_V q520 q521 q522 q23 q523, by decide +kernel⟩ ⟨rfl, rfl, Nat.le_of_ble_eq_true rfl, Nat.le_of_ble_eq_true rfl⟩ (by decide) (c_Me E _) rfl rfl hl.1 rfl (Nat.le_of_ble_eq_true rfl) dX7_obey_133 ⟨Nat.zero_le _, Nat.zero_le _⟩) (fun H locs hw => ?_)
            refine lv_aload_n hx hb dX7_obey_136 rfl (lv_at hl 2 rfl) ?_
            refine g_f hw hf (by decide) (c_O E _) rfl inlX7 3 (by decide) rfl q24 rfl dX7_obey_137 ?_
            refine g_f hw hf (by decide) (c_Me E _) rfl inlX2 4 (by decide) rfl q517 (congrArg (fun z => some (Value.int z)) (show _ = dgn (μ.1 1) t4 from (by first | (simp [pM, pJ, upM, upJ, sF, tN, tD, tR, tk_M, tk_K, tk_0, tk_1, tk_2, tk_3, tk_4, tk_5, tk_6, tk_7, tk_8, tk_9, tk_10, tk_o, ms_0_0, ms_0_1, ms_0_2, ms_0_3, ms_0_4, ms_0_5, ms_0_6, ms_0_7, ms_0_8, ms_0_9, ms_0_10, ms_1_0, ms_1_1, ms_1_2, ms_1_3, ms_1_4, ms_1_5, ms_1_6, ms_1_7, ms_1_8, ms_1_9, ms_1_10, ms_w, ms_r, ms_d, ms_M, ms_6, ms_K]; done) | (simp (disch := (first | omega | (simp only [tN, tD, tR, sF]; omega))) only [pM, pJ, upM_s, upM_k, upM_c, upJ_s, upJ_k, upJ_c, tk_M, tk_K, tk_0, tk_1, tk_2, tk_3, tk_4, tk_5, tk_6, tk_7, tk_8, tk_9, tk_10, tk_o, ms_0_0, ms_0_1, ms_0_2, ms_0_3, ms_0_4, ms_0_5, ms_0_6, ms_0_7, ms_0_8, ms_0_9, ms_0_10, ms_1_0, ms_1_1, ms_1_2, ms_1_3, ms_1_4, ms_1_5, ms_1_6, ms_1_7, ms_1_8, ms_1_9, ms_1_10, ms_w, ms_r, ms_d, ms_M, ms_6, ms_K])))) dX7_obey_140 ?_
            refine lv_if_ne (tgt := 159) hx hb dX7_obey_143 (by decide) (fun c11 => ?_) (fun c11 => ?_)
            · refine lv_iload_n hx hb dX7_obey_159 rfl (lv_at hl 1 rfl) ?_
              refine lv_if_eq (tgt := 167) hx hb dX7_obey_160 (by decide) (fun _ => ?_) (fun c => absurd c (by decide))
              refine lv_iconst (v := 3) hx hb dX7_obey_167 (by decide) ?_
              exact e_i hf hr hlocks hw rfl ((if_neg c1).trans ((oc_some o3).trans ((if_neg c7).trans ((if_neg c8).trans ((if_neg c9).trans ((if_neg c11).trans rfl)))))) dX7_obey_168
            · refine lv_aload_n hx hb dX7_obey_146 rfl (lv_at hl 0 rfl) ?_
              refine lv_aload_n hx hb dX7_obey_147 rfl (lv_at hl 2 rfl) ?_
              refine g_f hw hf (by decide) (c_O E _) rfl inlX7 3 (by decide) rfl q24 rfl dX7_obey_148 ?_
              refine g_f hw hf (by decide) (c_Me E _) rfl inlX2 3 (by decide) rfl q776 (congrArg (fun z => some (Value.int z)) (show _ = rdg (μ.1 1) t4 from (by first | (simp [pM, pJ, upM, upJ, sF, tN, tD, tR, tk_M, tk_K, tk_0, tk_1, tk_2, tk_3, tk_4, tk_5, tk_6, tk_7, tk_8, tk_9, tk_10, tk_o, ms_0_0, ms_0_1, ms_0_2, ms_0_3, ms_0_4, ms_0_5, ms_0_6, ms_0_7, ms_0_8, ms_0_9, ms_0_10, ms_1_0, ms_1_1, ms_1_2, ms_1_3, ms_1_4, ms_1_5, ms_1_6, ms_1_7, ms_1_8, ms_1_9, ms_1_10, ms_w, ms_r, ms_d, ms_M, ms_6, ms_K]; done) | (simp (disch := (first | omega | (simp only [tN, tD, tR, sF]; omega))) only [pM, pJ, upM_s, upM_k, upM_c, upJ_s, upJ_k, upJ_c, tk_M, tk_K, tk_0, tk_1, tk_2, tk_3, tk_4, tk_5, tk_6, tk_7, tk_8, tk_9, tk_10, tk_o, ms_0_0, ms_0_1, ms_0_2, ms_0_3, ms_0_4, ms_0_5, ms_0_6, ms_0_7, ms_0_8, ms_0_9, ms_0_10, ms_1_0, ms_1_1, ms_1_2, ms_1_3, ms_1_4, ms_1_5, ms_1_6, ms_1_7, ms_1_8, ms_1_9, ms_1_10, ms_w, ms_r, ms_d, ms_M, ms_6, ms_K])))) dX7_obey_151 ?_
              refine c_v hw (run_V (As := [.int (rdg (μ.1 1) t4)]) (rest := []) (np := 1) hf hw (k_X3_log l E _ (by decide) ht6 (rdg (μ.1 1) t4)  ) ⟨gl_V q777 q778 q779 q48 q780, by decide +kernel⟩ ⟨rfl, rfl, Nat.le_of_ble_eq_true rfl, Nat.le_of_ble_eq_true rfl⟩ (lt_iN (by decide) ht6) (c_iN E _ (by decide) ht6) rfl rfl hl.1 rfl (Nat.le_of_ble_eq_true rfl) dX7_obey_154 ⟨Nat.zero_le _, Nat.zero_le _⟩) (fun H locs hw => ?_)
              refine lv_iconst (v := 0) hx hb dX7_obey_157 (by decide) ?_
              exact e_i hf hr hlocks hw rfl ((if_neg c1).trans ((oc_some o3).trans ((if_neg c7).trans ((if_neg c8).trans ((if_neg c9).trans ((if_pos c11).trans rfl)))))) dX7_obey_158
          · refine lv_aload_n hx hb dX7_obey_103 rfl (lv_at hl 2 rfl) ?_
            refine lv_aload_n hx hb dX7_obey_104 rfl (lv_at hl 0 rfl) ?_
            refine c_i hw (run_V (As := [.ref (E.1 (iN 1 t4))]) (rest := []) (np := 1) hf hw (k_X7_obeyCut l E _ ht6   ) ⟨gl_V q980 q981 q982 q2 q983, by decide +kernel⟩ ⟨rfl, rfl, Nat.le_of_ble_eq_true rfl, Nat.le_of_ble_eq_true rfl⟩ (by decide) (c_O E _) rfl rfl hl.1 rfl (Nat.le_of_ble_eq_true rfl) dX7_obey_105 ⟨Nat.zero_le _, Nat.zero_le _⟩) (fun H locs hw => ?_)
            exact e_i hf hr hlocks hw rfl ((if_neg c1).trans ((oc_some o3).trans ((if_neg c7).trans ((if_neg c8).trans ((if_pos c9).trans rfl))))) dX7_obey_108
      · refine lv_aload_n hx hb dX7_obey_73 rfl (lv_at hl 2 rfl) ?_
        refine lv_aload_n hx hb dX7_obey_74 rfl (lv_at hl 0 rfl) ?_
        refine c_i hw (run_V (As := [.ref (E.1 (iN 1 t4))]) (rest := []) (np := 1) hf hw (k_X7_obeyBath l E _ ht6   ) ⟨gl_V q975 q976 q977 q2 q978, by decide +kernel⟩ ⟨rfl, rfl, Nat.le_of_ble_eq_true rfl, Nat.le_of_ble_eq_true rfl⟩ (by decide) (c_O E _) rfl rfl hl.1 rfl (Nat.le_of_ble_eq_true rfl) dX7_obey_75 ⟨Nat.zero_le _, Nat.zero_le _⟩) (fun H locs hw => ?_)
        exact e_i hf hr hlocks hw rfl ((if_neg c1).trans ((oc_some o3).trans ((if_pos c7).trans rfl))) dX7_obey_78
  · refine lv_iconst (v := 1) hx hb dX7_obey_12 (by decide) ?_
    refine lv_goto (tgt := 17) hx hb dX7_obey_13 (by decide) ?_
    refine lv_istore_n (lv' := [(1, .int 1), (0, .ref (E.1 (231)))]) hx hb dX7_obey_17 rfl hl (by decide) rfl (fun ls hl => ?_)
    refine lv_aload_n hx hb dX7_obey_18 rfl (lv_at hl 1 rfl) ?_
    refine g_f hw hf (by decide) (c_O E _) rfl inlX7 1 (by decide) rfl q16 rfl dX7_obey_19 ?_
    refine lv_iload_n hx hb dX7_obey_22 rfl (lv_at hl 0 rfl) ?_
    refine lv_if_eq (tgt := 36) hx hb dX7_obey_23 (by decide) (fun c => absurd c (by decide)) (fun _ => ?_)
    refine lv_aload_n hx hb dX7_obey_26 rfl (lv_at hl 1 rfl) ?_
    refine g_f hw hf (by decide) (c_O E _) rfl inlX7 1 (by decide) rfl q16 rfl dX7_obey_27 ?_
    refine c_iR hw (run_V (As := []) (rest := [.ref (E.1 (iS 1))]) (np := 0) hf hw (k_X4_nextPlugged l E _ (by decide)   ) ⟨gl_V q798 q799 q800 q14 q801, by decide +kernel⟩ ⟨rfl, rfl, Nat.le_of_ble_eq_true rfl, Nat.le_of_ble_eq_true rfl⟩ (lt_iS (by decide)) (c_iS E _ (by decide)) rfl rfl hl.1 rfl (Nat.le_of_ble_eq_true rfl) dX7_obey_30 ⟨Nat.zero_le _, Nat.zero_le _⟩) (fun H locs hw => ?_)
    refine lv_goto (tgt := 43) hx hb dX7_obey_33 (by decide) ?_
    refine c_q hw (run_V (As := [.int (sp_X4_nextPlugged (μ.1 1)  )]) (rest := []) (np := 1) hf hw (k_X4_sensorAt l E _ (by decide) (sp_X4_nextPlugged (μ.1 1)  )  ) ⟨gl_V q305 q306 q307 q14 q308, by decide +kernel⟩ ⟨rfl, rfl, Nat.le_of_ble_eq_true rfl, Nat.le_of_ble_eq_true rfl⟩ (lt_iS (by decide)) (c_iS E _ (by decide)) rfl rfl hl.1 rfl (Nat.le_of_ble_eq_true rfl) dX7_obey_43 ⟨Nat.zero_le _, Nat.zero_le _⟩) (fun H locs hw => ?_)
    rcases o14 : sp_X4_sensorAt (μ.1 1)  (sp_X4_nextPlugged (μ.1 1)  ) with _ | t15
    · refine W.eq (g2 := F0 m 46 ls [.null]) rfl ?_
      refine lv_astore_nN (lv' := [(2, .null), (1, .int 1), (0, .ref (E.1 (231)))]) hx hb dX7_obey_46 rfl hl (by decide) rfl (fun ls hl => ?_)
      refine lv_aload_nN hx hb dX7_obey_47 rfl (lv_at hl 0 rfl) ?_
      refine lv_ifnonnullN hx hb dX7_obey_48 ?_
      refine lv_iload_n hx hb dX7_obey_51 rfl (lv_at hl 1 rfl) ?_
      refine lv_if_eq (tgt := 59) hx hb dX7_obey_52 (by decide) (fun c => absurd c (by decide)) (fun _ => ?_)
      refine lv_iconst (v := 3) hx hb dX7_obey_55 (by decide) ?_
      refine lv_goto (tgt := 60) hx hb dX7_obey_56 (by decide) ?_
      exact e_i hf hr hlocks hw rfl ((if_pos c1).trans ((oc_none o14).trans rfl)) dX7_obey_60
    · have ht17 : t15 < 6 := (b_X4_sensorAt o14)
      refine W.eq (g2 := F0 m 46 ls [.ref (E.1 (iN 1 t15))]) rfl ?_
      refine lv_astore_n (lv' := [(2, .ref (E.1 (iN 1 t15))), (1, .int 1), (0, .ref (E.1 (231)))]) hx hb dX7_obey_46 rfl hl (by decide) rfl (fun ls hl => ?_)
      refine lv_aload_n hx hb dX7_obey_47 rfl (lv_at hl 0 rfl) ?_
      refine lv_ifnonnull (tgt := 61) hx hb dX7_obey_48 (by decide) ?_
      refine lv_aload_n hx hb dX7_obey_61 rfl (lv_at hl 2 rfl) ?_
      refine g_f hw hf (by decide) (c_O E _) rfl inlX7 5 (by decide) rfl q32 rfl dX7_obey_62 ?_
      refine g_f hw hf (by decide) (c_Tx E _) rfl inlX6 1 (by decide) rfl q973 rfl dX7_obey_65 ?_
      refine lv_bipush (v := 116) hx hb dX7_obey_68 (by decide) ?_
      refine lv_icmp_ne (tgt := 79) hx hb dX7_obey_70 (by decide) (fun c18 => ?_) (fun c18 => ?_)
      · refine lv_aload_n hx hb dX7_obey_79 rfl (lv_at hl 2 rfl) ?_
        refine g_f hw hf (by decide) (c_O E _) rfl inlX7 5 (by decide) rfl q32 rfl dX7_obey_80 ?_
        refine g_f hw hf (by decide) (c_Tx E _) rfl inlX6 1 (by decide) rfl q973 rfl dX7_obey_83 ?_
        refine lv_bipush (v := 98) hx hb dX7_obey_86 (by decide) ?_
        refine lv_icmp_eq (tgt := 103) hx hb dX7_obey_88 (by decide) (fun c19 => ?_) (fun c19 => ?_)
        · refine lv_aload_n hx hb dX7_obey_103 rfl (lv_at hl 2 rfl) ?_
          refine lv_aload_n hx hb dX7_obey_104 rfl (lv_at hl 0 rfl) ?_
          refine c_i hw (run_V (As := [.ref (E.1 (iN 1 t15))]) (rest := []) (np := 1) hf hw (k_X7_obeyCut l E _ ht17   ) ⟨gl_V q980 q981 q982 q2 q983, by decide +kernel⟩ ⟨rfl, rfl, Nat.le_of_ble_eq_true rfl, Nat.le_of_ble_eq_true rfl⟩ (by decide) (c_O E _) rfl rfl hl.1 rfl (Nat.le_of_ble_eq_true rfl) dX7_obey_105 ⟨Nat.zero_le _, Nat.zero_le _⟩) (fun H locs hw => ?_)
          exact e_i hf hr hlocks hw rfl ((if_pos c1).trans ((oc_some o14).trans ((if_neg c18).trans ((if_pos c19).trans rfl)))) dX7_obey_108
        · refine lv_aload_n hx hb dX7_obey_91 rfl (lv_at hl 2 rfl) ?_
          refine g_f hw hf (by decide) (c_O E _) rfl inlX7 5 (by decide) rfl q32 rfl dX7_obey_92 ?_
          refine g_f hw hf (by decide) (c_Tx E _) rfl inlX6 1 (by decide) rfl q973 rfl dX7_obey_95 ?_
          refine lv_bipush (v := 109) hx hb dX7_obey_98 (by decide) ?_
          refine lv_icmp_ne (tgt := 109) hx hb dX7_obey_100 (by decide) (fun c20 => ?_) (fun c20 => ?_)
          · refine lv_iload_n hx hb dX7_obey_109 rfl (lv_at hl 1 rfl) ?_
            refine lv_if_eq (tgt := 124) hx hb dX7_obey_110 (by decide) (fun c => absurd c (by decide)) (fun _ => ?_)
            refine lv_aload_n hx hb dX7_obey_113 rfl (lv_at hl 2 rfl) ?_
            refine g_f hw hf (by decide) (c_O E _) rfl inlX7 1 (by decide) rfl q16 rfl dX7_obey_114 ?_
            refine lv_aload_n hx hb dX7_obey_117 rfl (lv_at hl 0 rfl) ?_
            refine g_f hw hf (lt_iN (by decide) ht17) (c_iN E _ (by decide) ht17) rfl inlX3 6 (by decide) rfl q343 rfl dX7_obey_118 ?_
            refine p_f hw hf (lt_iS (by decide)) (c_iS E _ (by decide)) rfl inlX4 tyX4_ok nmX4 2 (by decide) rfl q797 rfl rfl rfl (Nat.le_of_ble_eq_true rfl) (s_S_2 E _ (by decide) _) dX7_obey_121 (fun H locs hw => ?_)
            refine lv_aload_n hx hb dX7_obey_124 rfl (lv_at hl 2 rfl) ?_
            refine g_f hw hf (by decide) (c_O E _) rfl inlX7 3 (by decide) rfl q24 rfl dX7_obey_125 ?_
            refine lv_aload_n hx hb dX7_obey_128 rfl (lv_at hl 2 rfl) ?_
            refine g_f hw hf (by decide) (c_O E _) rfl inlX7 1 (by decide) rfl q16 rfl dX7_obey_129 ?_
            refine lv_aload_n hx hb dX7_obey_132 rfl (lv_at hl 0 rfl) ?_
            refine c_v hw (run_V (As := [.ref (E.1 (iS 1)), .ref (E.1 (iN 1 t15))]) (rest := []) (np := 2) hf hw (kn_X2_measure l E _ (by decide) ht17  (by decide) ) ⟨gl_V q520 q521 q522 q23 q523, by decide +kernel⟩ ⟨rfl, rfl, Nat.le_of_ble_eq_true rfl, Nat.le_of_ble_eq_true rfl⟩ (by decide) (c_Me E _) rfl rfl hl.1 rfl (Nat.le_of_ble_eq_true rfl) dX7_obey_133 ⟨Nat.zero_le _, Nat.zero_le _⟩) (fun H locs hw => ?_)
            refine lv_aload_n hx hb dX7_obey_136 rfl (lv_at hl 2 rfl) ?_
            refine g_f hw hf (by decide) (c_O E _) rfl inlX7 3 (by decide) rfl q24 rfl dX7_obey_137 ?_
            refine g_f hw hf (by decide) (c_Me E _) rfl inlX2 4 (by decide) rfl q517 (congrArg (fun z => some (Value.int z)) (show _ = dgn ((pM μ 1 2 (μ.1 1 (sF t15 6))).1 1) t15 from (by first | (simp [pM, pJ, upM, upJ, sF, tN, tD, tR, tk_M, tk_K, tk_0, tk_1, tk_2, tk_3, tk_4, tk_5, tk_6, tk_7, tk_8, tk_9, tk_10, tk_o, ms_0_0, ms_0_1, ms_0_2, ms_0_3, ms_0_4, ms_0_5, ms_0_6, ms_0_7, ms_0_8, ms_0_9, ms_0_10, ms_1_0, ms_1_1, ms_1_2, ms_1_3, ms_1_4, ms_1_5, ms_1_6, ms_1_7, ms_1_8, ms_1_9, ms_1_10, ms_w, ms_r, ms_d, ms_M, ms_6, ms_K]; done) | (simp (disch := (first | omega | (simp only [tN, tD, tR, sF]; omega))) only [pM, pJ, upM_s, upM_k, upM_c, upJ_s, upJ_k, upJ_c, tk_M, tk_K, tk_0, tk_1, tk_2, tk_3, tk_4, tk_5, tk_6, tk_7, tk_8, tk_9, tk_10, tk_o, ms_0_0, ms_0_1, ms_0_2, ms_0_3, ms_0_4, ms_0_5, ms_0_6, ms_0_7, ms_0_8, ms_0_9, ms_0_10, ms_1_0, ms_1_1, ms_1_2, ms_1_3, ms_1_4, ms_1_5, ms_1_6, ms_1_7, ms_1_8, ms_1_9, ms_1_10, ms_w, ms_r, ms_d, ms_M, ms_6, ms_K])))) dX7_obey_140 ?_
            refine lv_if_ne (tgt := 159) hx hb dX7_obey_143 (by decide) (fun c22 => ?_) (fun c22 => ?_)
            · refine lv_iload_n hx hb dX7_obey_159 rfl (lv_at hl 1 rfl) ?_
              refine lv_if_eq (tgt := 167) hx hb dX7_obey_160 (by decide) (fun c => absurd c (by decide)) (fun _ => ?_)
              refine lv_iconst (v := 0) hx hb dX7_obey_163 (by decide) ?_
              refine lv_goto (tgt := 168) hx hb dX7_obey_164 (by decide) ?_
              exact e_i hf hr hlocks hw rfl ((if_pos c1).trans ((oc_some o14).trans ((if_neg c18).trans ((if_neg c19).trans ((if_neg c20).trans ((if_neg c22).trans rfl)))))) dX7_obey_168
            · refine lv_aload_n hx hb dX7_obey_146 rfl (lv_at hl 0 rfl) ?_
              refine lv_aload_n hx hb dX7_obey_147 rfl (lv_at hl 2 rfl) ?_
              refine g_f hw hf (by decide) (c_O E _) rfl inlX7 3 (by decide) rfl q24 rfl dX7_obey_148 ?_
              refine g_f hw hf (by decide) (c_Me E _) rfl inlX2 3 (by decide) rfl q776 (congrArg (fun z => some (Value.int z)) (show _ = rdg ((pM μ 1 2 (μ.1 1 (sF t15 6))).1 1) t15 from (by first | (simp [pM, pJ, upM, upJ, sF, tN, tD, tR, tk_M, tk_K, tk_0, tk_1, tk_2, tk_3, tk_4, tk_5, tk_6, tk_7, tk_8, tk_9, tk_10, tk_o, ms_0_0, ms_0_1, ms_0_2, ms_0_3, ms_0_4, ms_0_5, ms_0_6, ms_0_7, ms_0_8, ms_0_9, ms_0_10, ms_1_0, ms_1_1, ms_1_2, ms_1_3, ms_1_4, ms_1_5, ms_1_6, ms_1_7, ms_1_8, ms_1_9, ms_1_10, ms_w, ms_r, ms_d, ms_M, ms_6, ms_K]; done) | (simp (disch := (first | omega | (simp only [tN, tD, tR, sF]; omega))) only [pM, pJ, upM_s, upM_k, upM_c, upJ_s, upJ_k, upJ_c, tk_M, tk_K, tk_0, tk_1, tk_2, tk_3, tk_4, tk_5, tk_6, tk_7, tk_8, tk_9, tk_10, tk_o, ms_0_0, ms_0_1, ms_0_2, ms_0_3, ms_0_4, ms_0_5, ms_0_6, ms_0_7, ms_0_8, ms_0_9, ms_0_10, ms_1_0, ms_1_1, ms_1_2, ms_1_3, ms_1_4, ms_1_5, ms_1_6, ms_1_7, ms_1_8, ms_1_9, ms_1_10, ms_w, ms_r, ms_d, ms_M, ms_6, ms_K])))) dX7_obey_151 ?_
              refine c_v hw (run_V (As := [.int (rdg ((pM μ 1 2 (μ.1 1 (sF t15 6))).1 1) t15)]) (rest := []) (np := 1) hf hw (k_X3_log l E _ (by decide) ht17 (rdg ((pM μ 1 2 (μ.1 1 (sF t15 6))).1 1) t15)  ) ⟨gl_V q777 q778 q779 q48 q780, by decide +kernel⟩ ⟨rfl, rfl, Nat.le_of_ble_eq_true rfl, Nat.le_of_ble_eq_true rfl⟩ (lt_iN (by decide) ht17) (c_iN E _ (by decide) ht17) rfl rfl hl.1 rfl (Nat.le_of_ble_eq_true rfl) dX7_obey_154 ⟨Nat.zero_le _, Nat.zero_le _⟩) (fun H locs hw => ?_)
              refine lv_iconst (v := 0) hx hb dX7_obey_157 (by decide) ?_
              exact e_i hf hr hlocks hw rfl ((if_pos c1).trans ((oc_some o14).trans ((if_neg c18).trans ((if_neg c19).trans ((if_neg c20).trans ((if_pos c22).trans rfl)))))) dX7_obey_158
          · refine lv_aload_n hx hb dX7_obey_103 rfl (lv_at hl 2 rfl) ?_
            refine lv_aload_n hx hb dX7_obey_104 rfl (lv_at hl 0 rfl) ?_
            refine c_i hw (run_V (As := [.ref (E.1 (iN 1 t15))]) (rest := []) (np := 1) hf hw (k_X7_obeyCut l E _ ht17   ) ⟨gl_V q980 q981 q982 q2 q983, by decide +kernel⟩ ⟨rfl, rfl, Nat.le_of_ble_eq_true rfl, Nat.le_of_ble_eq_true rfl⟩ (by decide) (c_O E _) rfl rfl hl.1 rfl (Nat.le_of_ble_eq_true rfl) dX7_obey_105 ⟨Nat.zero_le _, Nat.zero_le _⟩) (fun H locs hw => ?_)
            exact e_i hf hr hlocks hw rfl ((if_pos c1).trans ((oc_some o14).trans ((if_neg c18).trans ((if_neg c19).trans ((if_pos c20).trans rfl))))) dX7_obey_108
      · refine lv_aload_n hx hb dX7_obey_73 rfl (lv_at hl 2 rfl) ?_
        refine lv_aload_n hx hb dX7_obey_74 rfl (lv_at hl 0 rfl) ?_
        refine c_i hw (run_V (As := [.ref (E.1 (iN 1 t15))]) (rest := []) (np := 1) hf hw (k_X7_obeyBath l E _ ht17   ) ⟨gl_V q975 q976 q977 q2 q978, by decide +kernel⟩ ⟨rfl, rfl, Nat.le_of_ble_eq_true rfl, Nat.le_of_ble_eq_true rfl⟩ (by decide) (c_O E _) rfl rfl hl.1 rfl (Nat.le_of_ble_eq_true rfl) dX7_obey_75 ⟨Nat.zero_le _, Nat.zero_le _⟩) (fun H locs hw => ?_)
        exact e_i hf hr hlocks hw rfl ((if_pos c1).trans ((oc_some o14).trans ((if_pos c18).trans rfl))) dX7_obey_78
theorem ch_keep {μ μ' : Mu} (h : ∀ y, y < 60 → μ'.1 6 (8 + y) = μ.1 6 (8 + y)) (hch : ChOk (μ.1 6)) : ChOk (μ'.1 6) := fun y hy => by rw [h y hy]; exact hch y hy
theorem ch_row {μ : Mu} {c k : Nat} {v : Int32} (hc : c ≠ 6) (hch : ChOk (μ.1 6)) : ChOk ((pM μ c k v).1 6) := ch_keep (fun y _ => upM_c _ _ (Ne.symm hc)) hch
theorem ch_msr {μ : Mu} {j n : Nat} (hch : ChOk (μ.1 6)) : ChOk ((msr μ j n).1 6) := ch_keep (fun y _ => ms_6 μ j n (by omega) (by omega)) hch
theorem ch_up {μ : Mu} {k : Nat} {v : Int32} (h : ChOk (μ.1 6)) (hk : 68 ≤ k) : ChOk ((pM μ 6 k v).1 6) := ch_keep (fun y _ => upM_k _ _ (by omega)) h
theorem ch_lg {μ : Mu} {j n : Nat} {w : Int32} (h6 : j ≠ 6) (hch : ChOk (μ.1 6)) : ChOk ((sp_X3_log μ j n w).1 6) := by
  unfold sp_X3_log
  exact (ch_iteM (ch_iteM (ch_row h6 (ch_row h6 (ch_row h6 (ch_row h6 (ch_row h6 (ch_row h6 (ch_row h6 (ch_row h6 (ch_row h6 (ch_row h6 (ch_row h6 hch))))))))))) (ch_iteM (ch_iteM (ch_iteM (ch_row h6 (ch_row h6 (ch_row h6 (ch_row h6 (ch_row h6 (ch_row h6 (ch_row h6 (ch_row h6 (ch_row h6 (ch_row h6 hch)))))))))) (ch_iteM (ch_row h6 (ch_row h6 (ch_row h6 (ch_row h6 (ch_row h6 (ch_row h6 (ch_row h6 (ch_row h6 (ch_row h6 (ch_row h6 hch)))))))))) (ch_row h6 (ch_row h6 (ch_row h6 (ch_row h6 (ch_row h6 (ch_row h6 (ch_row h6 (ch_row h6 (ch_row h6 (ch_row h6 (ch_row h6 hch))))))))))))) (ch_row h6 (ch_row h6 (ch_row h6 (ch_row h6 (ch_row h6 (ch_row h6 (ch_row h6 (ch_row h6 (ch_row h6 (ch_row h6 hch))))))))))) (ch_row h6 (ch_row h6 (ch_row h6 (ch_row h6 (ch_row h6 (ch_row h6 (ch_row h6 (ch_row h6 (ch_row h6 (ch_row h6 (ch_row h6 hch))))))))))))) (ch_iteM (ch_iteM (ch_row h6 (ch_row h6 (ch_row h6 (ch_row h6 (ch_row h6 (ch_row h6 (ch_row h6 (ch_row h6 (ch_row h6 (ch_row h6 hch)))))))))) (ch_iteM (ch_row h6 (ch_row h6 (ch_row h6 (ch_row h6 (ch_row h6 (ch_row h6 (ch_row h6 (ch_row h6 (ch_row h6 (ch_row h6 hch)))))))))) (ch_row h6 (ch_row h6 (ch_row h6 (ch_row h6 (ch_row h6 (ch_row h6 (ch_row h6 (ch_row h6 (ch_row h6 (ch_row h6 (ch_row h6 hch))))))))))))) (ch_row h6 (ch_row h6 (ch_row h6 (ch_row h6 (ch_row h6 (ch_row h6 (ch_row h6 (ch_row h6 (ch_row h6 (ch_row h6 hch))))))))))))
theorem ch_tw {μ : Mu} {n : Nat} {w : Int32} (hch : ChOk (μ.1 6)) : ChOk ((sp_X3_turnWire μ 1 n w).1 6) := ch_row (by decide) hch
theorem ch_X7_obeyBath (μ : Mu) (n : Nat) (hch : ChOk (μ.1 6)) : ChOk ((sp_X7_obeyBath μ n).2.1 6) := by
  unfold sp_X7_obeyBath
  exact (ch_ite (ch_lf hch) (ch_lf (ch_row (by decide) hch)))
theorem ch_X7_obeyCut (μ : Mu) (n : Nat) (hch : ChOk (μ.1 6)) : ChOk ((sp_X7_obeyCut μ n).2.1 6) := by
  unfold sp_X7_obeyCut
  exact (ch_ite (ch_ite (ch_ite (ch_lf hch) (ch_lf (ch_tw hch))) (ch_ite (ch_lf (ch_tw hch)) (ch_lf hch))) (ch_lf hch))
theorem ch_X7_obey (μ : Mu) (hch : ChOk (μ.1 6)) : ChOk ((sp_X7_obey μ).2.1 6) := by
  unfold sp_X7_obey
  exact (ch_ite (ch_oc (ch_lf hch) (fun t15 => (ch_ite (ch_lf (ch_X7_obeyBath _ _ hch)) (ch_ite (ch_lf (ch_X7_obeyCut _ _ hch)) (ch_ite (ch_lf (ch_X7_obeyCut _ _ hch)) (ch_ite (ch_lf (ch_lg (by decide) (ch_msr (ch_row (by decide) hch)))) (ch_lf (ch_msr (ch_row (by decide) hch))))))))) (ch_oc (ch_lf hch) (fun t4 => (ch_ite (ch_lf (ch_X7_obeyBath _ _ hch)) (ch_ite (ch_lf (ch_X7_obeyCut _ _ hch)) (ch_ite (ch_lf (ch_X7_obeyCut _ _ hch)) (ch_ite (ch_lf (ch_lg (by decide) (ch_msr hch))) (ch_lf (ch_msr hch)))))))))
