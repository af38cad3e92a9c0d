/-! ===== OhmBridge: what it answers, reads alone ===== -/
def sp_X7_nodeAt (g : Nat → Int32)  (a : Int32) (b : Int32) (w : Int32) : Int32 :=
  oc (sp_X4_tableAt g  a) (
    (-2000000001)) (fun t2 =>
    if (b : Int32) < 0 then
      (-2000000001)
    else
      if (0 : Int64) ≤ (w.toInt64) ∧ (w.toInt64) ≤ (1 : Int64) then
        if (b : Int32) < g (tN t2) then
          if (w : Int32) = 0 then
            sp_X5_temperatureOf g t2 b
          else
            sp_X5_ratioOf g t2 b
        else
          (-2000000004)
      else
        (-2000000001))
set_option maxHeartbeats 4000000 in
set_option maxRecDepth 100000 in
theorem k_X7_nodeAt (l : Launch) (E : En) (μ : Mu)  (a : Int32) (b : Int32) (w : Int32)  : MtI l yX7_nodeAt cX7_nodeAt 5 .int ({ frames := 1, cells := 0, slots := 0, locals := 25 }) [.ref (E.1 (231)), .int (a), .int (b), .int (w)] E μ ((sp_X7_nodeAt (μ.1 0) a b w), μ) := by
  refine mt_of (by decide +kernel) (Nat.le_of_ble_eq_true rfl) ?_
  intro p e s m args below meth c ls hf hr hlocks hl hw
  have hx := hf.1
  have hb := hf.2.1
  have hl : lv_has ls 5 [(0, .ref (E.1 (231))), (1, .int (a)), (2, .int (b)), (3, .int (w))] := hl
  refine lv_aload_n hx hb dX7_nodeAt_0 rfl (lv_at hl 0 rfl) ?_
  refine g_f hw hf (by decide) (c_O E _) rfl inlX7 0 (by decide) rfl q23 rfl dX7_nodeAt_1 ?_
  refine lv_iload_n hx hb dX7_nodeAt_4 rfl (lv_at hl 1 rfl) ?_
  refine c_q hw (run_V (As := [.int (a)]) (rest := []) (np := 1) hf hw (k_X4_tableAt l E _ (by decide) a  ) ⟨gl_V q121 q122 q123 q22 q124, by decide +kernel⟩ ⟨rfl, rfl, Nat.le_of_ble_eq_true rfl, Nat.le_of_ble_eq_true rfl⟩ (lt_iS (by decide)) (c_iS E _ (by decide)) rfl rfl hl.1 rfl (Nat.le_of_ble_eq_true rfl) dX7_nodeAt_5 ⟨Nat.zero_le _, Nat.zero_le _⟩) (fun H locs hw => ?_)
  rcases o1 : sp_X4_tableAt (μ.1 0)  a with _ | t2
  · refine W.eq (g2 := F0 m 8 ls [.null]) rfl ?_
    refine lv_astoreN (lv' := [(4, .null), (0, .ref (E.1 (231))), (1, .int (a)), (2, .int (b)), (3, .int (w))]) hx hb dX7_nodeAt_8 hl (by decide) rfl (fun ls hl => ?_)
    refine lv_aloadN hx hb dX7_nodeAt_10 (lv_at hl 0 rfl) ?_
    refine lv_ifnullN (tgt := 29) hx hb dX7_nodeAt_12 (by decide) ?_
    refine lv_ldc hx hb hf.2.2.2.1 (hf.2.2.2.2 _ q113) dX7_nodeAt_29 ?_
    exact e_i hf hr hlocks hw rfl (congrArg (fun z => (z, μ)) ((oc_none o1).trans rfl)) dX7_nodeAt_31
  · have ht3 : t2 < 3 := (b_X4_tableAt o1)
    refine W.eq (g2 := F0 m 8 ls [.ref (E.1 (iT 0 t2))]) rfl ?_
    refine lv_astore (lv' := [(4, .ref (E.1 (iT 0 t2))), (0, .ref (E.1 (231))), (1, .int (a)), (2, .int (b)), (3, .int (w))]) hx hb dX7_nodeAt_8 hl (by decide) rfl (fun ls hl => ?_)
    refine lv_aload hx hb dX7_nodeAt_10 (lv_at hl 0 rfl) ?_
    refine lv_ifnull hx hb dX7_nodeAt_12 ?_
    refine lv_iload_n hx hb dX7_nodeAt_15 rfl (lv_at hl 3 rfl) ?_
    refine lv_if_lt (tgt := 29) hx hb dX7_nodeAt_16 (by decide) (fun c4 => ?_) (fun c4 => ?_)
    · refine lv_ldc hx hb hf.2.2.2.1 (hf.2.2.2.2 _ q113) dX7_nodeAt_29 ?_
      exact e_i hf hr hlocks hw rfl (congrArg (fun z => (z, μ)) ((oc_some o1).trans ((if_pos c4).trans rfl))) dX7_nodeAt_31
    · refine lv_iload_n hx hb dX7_nodeAt_19 rfl (lv_at hl 4 rfl) ?_
      refine lv_i2l hx hb dX7_nodeAt_20 rfl ?_
      refine lv_lconst (v := 0) hx hb dX7_nodeAt_21 (by decide) ?_
      refine lv_lconst (v := 1) hx hb dX7_nodeAt_22 (by decide) ?_
      refine c_iR hw (run_S (As := [.long (w.toInt64), .long (0), .long (1)]) (rest := []) (np := 3) hf hw (kn_X7_isWithin l E _  (w.toInt64) (0 : Int64) (1 : Int64)  ) ⟨gl_S q114 q115 q2 q116, by decide +kernel⟩ ⟨rfl, rfl, Nat.le_of_ble_eq_true rfl, Nat.le_of_ble_eq_true rfl⟩ rfl hl.1 rfl (Nat.le_of_ble_eq_true rfl) dX7_nodeAt_23 ⟨Nat.zero_le _, Nat.zero_le _⟩) (fun H locs hw => ?_)
      refine lv_if_ne (tgt := 32) hx hb dX7_nodeAt_26 (by decide) (fun c5 => ?_) (fun c5 => ?_)
      · replace c5 := (bz_n0 _).mp c5
        refine lv_iload_n hx hb dX7_nodeAt_32 rfl (lv_at hl 3 rfl) ?_
        refine lv_aload hx hb dX7_nodeAt_33 (lv_at hl 0 rfl) ?_
        refine g_f hw hf (lt_iT (by decide) ht3) (c_iT E _ (by decide) ht3) rfl inlX5 0 (by decide) rfl q107 rfl dX7_nodeAt_35 ?_
        refine lv_icmp_lt (tgt := 44) hx hb dX7_nodeAt_38 (by decide) (fun c6 => ?_) (fun c6 => ?_)
        · refine lv_iload_n hx hb dX7_nodeAt_44 rfl (lv_at hl 4 rfl) ?_
          refine lv_if_ne (tgt := 57) hx hb dX7_nodeAt_45 (by decide) (fun c7 => ?_) (fun c7 => ?_)
          · refine lv_aload hx hb dX7_nodeAt_57 (lv_at hl 0 rfl) ?_
            refine lv_iload_n hx hb dX7_nodeAt_59 rfl (lv_at hl 3 rfl) ?_
            refine c_iR hw (run_V (As := [.int (b)]) (rest := []) (np := 1) hf hw (k_X5_ratioOf l E _ (by decide) ht3 b  ) ⟨gl_V q164 q165 q166 q54 q167, by decide +kernel⟩ ⟨rfl, rfl, Nat.le_of_ble_eq_true rfl, Nat.le_of_ble_eq_true rfl⟩ (lt_iT (by decide) ht3) (c_iT E _ (by decide) ht3) rfl rfl hl.1 rfl (Nat.le_of_ble_eq_true rfl) dX7_nodeAt_60 ⟨Nat.zero_le _, Nat.zero_le _⟩) (fun H locs hw => ?_)
            exact e_i hf hr hlocks hw rfl (congrArg (fun z => (z, μ)) ((oc_some o1).trans ((if_neg c4).trans ((if_pos c5).trans ((if_pos c6).trans ((if_neg c7).trans rfl)))))) dX7_nodeAt_63
          · refine lv_aload hx hb dX7_nodeAt_48 (lv_at hl 0 rfl) ?_
            refine lv_iload_n hx hb dX7_nodeAt_50 rfl (lv_at hl 3 rfl) ?_
            refine c_iR hw (run_V (As := [.int (b)]) (rest := []) (np := 1) hf hw (k_X5_temperatureOf l E _ (by decide) ht3 b  ) ⟨gl_V q160 q161 q162 q54 q163, by decide +kernel⟩ ⟨rfl, rfl, Nat.le_of_ble_eq_true rfl, Nat.le_of_ble_eq_true rfl⟩ (lt_iT (by decide) ht3) (c_iT E _ (by decide) ht3) rfl rfl hl.1 rfl (Nat.le_of_ble_eq_true rfl) dX7_nodeAt_51 ⟨Nat.zero_le _, Nat.zero_le _⟩) (fun H locs hw => ?_)
            refine lv_goto (tgt := 63) hx hb dX7_nodeAt_54 (by decide) ?_
            exact e_i hf hr hlocks hw rfl (congrArg (fun z => (z, μ)) ((oc_some o1).trans ((if_neg c4).trans ((if_pos c5).trans ((if_pos c6).trans ((if_pos c7).trans rfl)))))) dX7_nodeAt_63
        · refine lv_ldc hx hb hf.2.2.2.1 (hf.2.2.2.2 _ q106) dX7_nodeAt_41 ?_
          exact e_i hf hr hlocks hw rfl (congrArg (fun z => (z, μ)) ((oc_some o1).trans ((if_neg c4).trans ((if_pos c5).trans ((if_neg c6).trans rfl))))) dX7_nodeAt_43
      · replace c5 := (bz_0 _).mp c5
        refine lv_ldc hx hb hf.2.2.2.1 (hf.2.2.2.2 _ q113) dX7_nodeAt_29 ?_
        exact e_i hf hr hlocks hw rfl (congrArg (fun z => (z, μ)) ((oc_some o1).trans ((if_neg c4).trans ((if_neg c5).trans rfl)))) dX7_nodeAt_31
def sp_X7_ratio (g : Nat → Int32)  (a : Int32) (b : Int32) : Int32 :=
  oc (sp_X4_tableAt g  a) (
    (-2000000001)) (fun t2 =>
    if (-200000 : Int64) ≤ b.toInt64 ∧ b.toInt64 ≤ 850000 then
      if (sp_X5_goesTo g t2 b : Int32) = 0 then
        (-2000000004)
      else
        sp_X5_ratioAt g t2 b
    else
      (-2000000001))
set_option maxHeartbeats 4000000 in
set_option maxRecDepth 100000 in
theorem k_X7_ratio (l : Launch) (E : En) (μ : Mu)  (a : Int32) (b : Int32)  : MtI l yX7_ratio cX7_ratio 4 .int ({ frames := 2, cells := 0, slots := 0, locals := 45 }) [.ref (E.1 (231)), .int (a), .int (b)] E μ ((sp_X7_ratio (μ.1 0) a b), μ) := by
  refine mt_of (by decide +kernel) (Nat.le_of_ble_eq_true rfl) ?_
  intro p e s m args below meth c ls hf hr hlocks hl hw
  have hx := hf.1
  have hb := hf.2.1
  have hl : lv_has ls 4 [(0, .ref (E.1 (231))), (1, .int (a)), (2, .int (b))] := hl
  refine lv_aload_n hx hb dX7_ratio_0 rfl (lv_at hl 0 rfl) ?_
  refine g_f hw hf (by decide) (c_O E _) rfl inlX7 0 (by decide) rfl q23 rfl dX7_ratio_1 ?_
  refine lv_iload_n hx hb dX7_ratio_4 rfl (lv_at hl 1 rfl) ?_
  refine c_q hw (run_V (As := [.int (a)]) (rest := []) (np := 1) hf hw (k_X4_tableAt l E _ (by decide) a  ) ⟨gl_V q121 q122 q123 q22 q124, by decide +kernel⟩ ⟨rfl, rfl, Nat.le_of_ble_eq_true rfl, Nat.le_of_ble_eq_true rfl⟩ (lt_iS (by decide)) (c_iS E _ (by decide)) rfl rfl hl.1 rfl (Nat.le_of_ble_eq_true rfl) dX7_ratio_5 ⟨Nat.zero_le _, Nat.zero_le _⟩) (fun H locs hw => ?_)
  rcases o1 : sp_X4_tableAt (μ.1 0)  a with _ | t2
  · refine W.eq (g2 := F0 m 8 ls [.null]) rfl ?_
    refine lv_astore_nN (lv' := [(3, .null), (0, .ref (E.1 (231))), (1, .int (a)), (2, .int (b))]) hx hb dX7_ratio_8 rfl hl (by decide) rfl (fun ls hl => ?_)
    refine lv_aload_nN hx hb dX7_ratio_9 rfl (lv_at hl 0 rfl) ?_
    refine lv_ifnullN (tgt := 20) hx hb dX7_ratio_10 (by decide) ?_
    refine lv_ldc hx hb hf.2.2.2.1 (hf.2.2.2.2 _ q113) dX7_ratio_20 ?_
    exact e_i hf hr hlocks hw rfl (congrArg (fun z => (z, μ)) ((oc_none o1).trans rfl)) dX7_ratio_22
  · have ht3 : t2 < 3 := (b_X4_tableAt o1)
    refine W.eq (g2 := F0 m 8 ls [.ref (E.1 (iT 0 t2))]) rfl ?_
    refine lv_astore_n (lv' := [(3, .ref (E.1 (iT 0 t2))), (0, .ref (E.1 (231))), (1, .int (a)), (2, .int (b))]) hx hb dX7_ratio_8 rfl hl (by decide) rfl (fun ls hl => ?_)
    refine lv_aload_n hx hb dX7_ratio_9 rfl (lv_at hl 0 rfl) ?_
    refine lv_ifnull hx hb dX7_ratio_10 ?_
    refine lv_iload_n hx hb dX7_ratio_13 rfl (lv_at hl 3 rfl) ?_
    refine c_iR hw (run_S (As := [.int (b)]) (rest := []) (np := 1) hf hw (kn_X7_isTemperature l E _  b  ) ⟨gl_S q172 q173 q2 q174, by decide +kernel⟩ ⟨rfl, rfl, Nat.le_of_ble_eq_true rfl, Nat.le_of_ble_eq_true rfl⟩ rfl hl.1 rfl (Nat.le_of_ble_eq_true rfl) dX7_ratio_14 ⟨Nat.zero_le _, Nat.zero_le _⟩) (fun H locs hw => ?_)
    refine lv_if_ne (tgt := 23) hx hb dX7_ratio_17 (by decide) (fun c4 => ?_) (fun c4 => ?_)
    · replace c4 := (bz_n0 _).mp c4
      refine lv_aload_n hx hb dX7_ratio_23 rfl (lv_at hl 0 rfl) ?_
      refine lv_iload_n hx hb dX7_ratio_24 rfl (lv_at hl 3 rfl) ?_
      refine c_iR hw (run_V (As := [.int (b)]) (rest := []) (np := 1) hf hw (k_X5_goesTo l E _ (by decide) ht3 b  ) ⟨gl_V q177 q178 q179 q54 q180, by decide +kernel⟩ ⟨rfl, rfl, Nat.le_of_ble_eq_true rfl, Nat.le_of_ble_eq_true rfl⟩ (lt_iT (by decide) ht3) (c_iT E _ (by decide) ht3) rfl rfl hl.1 rfl (Nat.le_of_ble_eq_true rfl) dX7_ratio_25 ⟨Nat.zero_le _, Nat.zero_le _⟩) (fun H locs hw => ?_)
      refine lv_if_eq (tgt := 39) hx hb dX7_ratio_28 (by decide) (fun c5 => ?_) (fun c5 => ?_)
      · refine lv_ldc hx hb hf.2.2.2.1 (hf.2.2.2.2 _ q106) dX7_ratio_39 ?_
        exact e_i hf hr hlocks hw rfl (congrArg (fun z => (z, μ)) ((oc_some o1).trans ((if_pos c4).trans ((if_pos c5).trans rfl)))) dX7_ratio_41
      · refine lv_aload_n hx hb dX7_ratio_31 rfl (lv_at hl 0 rfl) ?_
        refine lv_iload_n hx hb dX7_ratio_32 rfl (lv_at hl 3 rfl) ?_
        refine c_iR hw (run_V (As := [.int (b)]) (rest := []) (np := 1) hf hw (k_X5_ratioAt l E _ (by decide) ht3 b  ) ⟨gl_V q183 q184 q185 q54 q186, by decide +kernel⟩ ⟨rfl, rfl, Nat.le_of_ble_eq_true rfl, Nat.le_of_ble_eq_true rfl⟩ (lt_iT (by decide) ht3) (c_iT E _ (by decide) ht3) rfl rfl hl.1 rfl (Nat.le_of_ble_eq_true rfl) dX7_ratio_33 ⟨Nat.zero_le _, Nat.zero_le _⟩) (fun H locs hw => ?_)
        refine lv_goto (tgt := 41) hx hb dX7_ratio_36 (by decide) ?_
        exact e_i hf hr hlocks hw rfl (congrArg (fun z => (z, μ)) ((oc_some o1).trans ((if_pos c4).trans ((if_neg c5).trans rfl)))) dX7_ratio_41
    · replace c4 := (bz_0 _).mp c4
      refine lv_ldc hx hb hf.2.2.2.1 (hf.2.2.2.2 _ q113) dX7_ratio_20 ?_
      exact e_i hf hr hlocks hw rfl (congrArg (fun z => (z, μ)) ((oc_some o1).trans ((if_neg c4).trans rfl))) dX7_ratio_22
def sp_X7_inverse (g : Nat → Int32)  (a : Int32) (b : Int32) : Int32 :=
  oc (sp_X4_tableAt g  a) (
    (-2000000001)) (fun t2 =>
    if (1 : Int64) ≤ (b.toInt64) ∧ (b.toInt64) ≤ (10000000 : Int64) then
      sp_X5_temperatureFor g t2 (b.toInt64)
    else
      (-2000000001))
set_option maxHeartbeats 4000000 in
set_option maxRecDepth 100000 in
theorem k_X7_inverse (l : Launch) (E : En) (μ : Mu)  (a : Int32) (b : Int32)  : MtI l yX7_inverse cX7_inverse 4 .int ({ frames := 2, cells := 0, slots := 0, locals := 54 }) [.ref (E.1 (231)), .int (a), .int (b)] E μ ((sp_X7_inverse (μ.1 0) a b), μ) := by
  refine mt_of (by decide +kernel) (Nat.le_of_ble_eq_true rfl) ?_
  intro p e s m args below meth c ls hf hr hlocks hl hw
  have hx := hf.1
  have hb := hf.2.1
  have hl : lv_has ls 4 [(0, .ref (E.1 (231))), (1, .int (a)), (2, .int (b))] := hl
  refine lv_aload_n hx hb dX7_inverse_0 rfl (lv_at hl 0 rfl) ?_
  refine g_f hw hf (by decide) (c_O E _) rfl inlX7 0 (by decide) rfl q23 rfl dX7_inverse_1 ?_
  refine lv_iload_n hx hb dX7_inverse_4 rfl (lv_at hl 1 rfl) ?_
  refine c_q hw (run_V (As := [.int (a)]) (rest := []) (np := 1) hf hw (k_X4_tableAt l E _ (by decide) a  ) ⟨gl_V q121 q122 q123 q22 q124, by decide +kernel⟩ ⟨rfl, rfl, Nat.le_of_ble_eq_true rfl, Nat.le_of_ble_eq_true rfl⟩ (lt_iS (by decide)) (c_iS E _ (by decide)) rfl rfl hl.1 rfl (Nat.le_of_ble_eq_true rfl) dX7_inverse_5 ⟨Nat.zero_le _, Nat.zero_le _⟩) (fun H locs hw => ?_)
  rcases o1 : sp_X4_tableAt (μ.1 0)  a with _ | t2
  · refine W.eq (g2 := F0 m 8 ls [.null]) rfl ?_
    refine lv_astore_nN (lv' := [(3, .null), (0, .ref (E.1 (231))), (1, .int (a)), (2, .int (b))]) hx hb dX7_inverse_8 rfl hl (by decide) rfl (fun ls hl => ?_)
    refine lv_aload_nN hx hb dX7_inverse_9 rfl (lv_at hl 0 rfl) ?_
    refine lv_ifnullN (tgt := 25) hx hb dX7_inverse_10 (by decide) ?_
    refine lv_ldc hx hb hf.2.2.2.1 (hf.2.2.2.2 _ q113) dX7_inverse_25 ?_
    exact e_i hf hr hlocks hw rfl (congrArg (fun z => (z, μ)) ((oc_none o1).trans rfl)) dX7_inverse_27
  · have ht3 : t2 < 3 := (b_X4_tableAt o1)
    refine W.eq (g2 := F0 m 8 ls [.ref (E.1 (iT 0 t2))]) rfl ?_
    refine lv_astore_n (lv' := [(3, .ref (E.1 (iT 0 t2))), (0, .ref (E.1 (231))), (1, .int (a)), (2, .int (b))]) hx hb dX7_inverse_8 rfl hl (by decide) rfl (fun ls hl => ?_)
    refine lv_aload_n hx hb dX7_inverse_9 rfl (lv_at hl 0 rfl) ?_
    refine lv_ifnull hx hb dX7_inverse_10 ?_
    refine lv_iload_n hx hb dX7_inverse_13 rfl (lv_at hl 3 rfl) ?_
    refine lv_i2l hx hb dX7_inverse_14 rfl ?_
    refine lv_lconst (v := 1) hx hb dX7_inverse_15 (by decide) ?_
    refine lv_ldc2 hx hb hf.2.2.2.1 (hf.2.2.2.2 _ q191) dX7_inverse_16 ?_
    refine c_iR hw (run_S (As := [.long (b.toInt64), .long (1), .long (10000000)]) (rest := []) (np := 3) hf hw (kn_X7_isWithin l E _  (b.toInt64) (1 : Int64) (10000000 : Int64)  ) ⟨gl_S q114 q115 q2 q116, by decide +kernel⟩ ⟨rfl, rfl, Nat.le_of_ble_eq_true rfl, Nat.le_of_ble_eq_true rfl⟩ rfl hl.1 rfl (Nat.le_of_ble_eq_true rfl) dX7_inverse_19 ⟨Nat.zero_le _, Nat.zero_le _⟩) (fun H locs hw => ?_)
    refine lv_if_ne (tgt := 28) hx hb dX7_inverse_22 (by decide) (fun c4 => ?_) (fun c4 => ?_)
    · replace c4 := (bz_n0 _).mp c4
      refine lv_aload_n hx hb dX7_inverse_28 rfl (lv_at hl 0 rfl) ?_
      refine lv_iload_n hx hb dX7_inverse_29 rfl (lv_at hl 3 rfl) ?_
      refine lv_i2l hx hb dX7_inverse_30 rfl ?_
      refine c_iR hw (run_V (As := [.long (b.toInt64)]) (rest := []) (np := 1) hf hw (k_X5_temperatureFor l E _ (by decide) ht3 (b.toInt64)  ) ⟨gl_V q192 q193 q194 q54 q195, by decide +kernel⟩ ⟨rfl, rfl, Nat.le_of_ble_eq_true rfl, Nat.le_of_ble_eq_true rfl⟩ (lt_iT (by decide) ht3) (c_iT E _ (by decide) ht3) rfl rfl hl.1 rfl (Nat.le_of_ble_eq_true rfl) dX7_inverse_31 ⟨Nat.zero_le _, Nat.zero_le _⟩) (fun H locs hw => ?_)
      exact e_i hf hr hlocks hw rfl (congrArg (fun z => (z, μ)) ((oc_some o1).trans ((if_pos c4).trans rfl))) dX7_inverse_34
    · replace c4 := (bz_0 _).mp c4
      refine lv_ldc hx hb hf.2.2.2.1 (hf.2.2.2.2 _ q113) dX7_inverse_25 ?_
      exact e_i hf hr hlocks hw rfl (congrArg (fun z => (z, μ)) ((oc_some o1).trans ((if_neg c4).trans rfl))) dX7_inverse_27
def sp_X7_slotAt (g : Nat → Int32)  (a : Int32) (b : Int32) : Int32 :=
  if ((0 : Int64) ≤ a.toInt64 ∧ a.toInt64 ≤ 3) ∧ (0 : Int64) ≤ b.toInt64 ∧ b.toInt64 ≤ 2 then
    if (sp_X4_sensorIn g  ((a * 3) + b) : Int32) = (-1) then
      (-2000000004)
    else
      sp_X4_sensorIn g  ((a * 3) + b)
  else
    (-2000000001)
set_option maxHeartbeats 4000000 in
set_option maxRecDepth 100000 in
theorem k_X7_slotAt (l : Launch) (E : En) (μ : Mu)  (a : Int32) (b : Int32)  : MtI l yX7_slotAt cX7_slotAt 4 .int ({ frames := 2, cells := 0, slots := 0, locals := 46 }) [.ref (E.1 (231)), .int (a), .int (b)] E μ ((sp_X7_slotAt (μ.1 0) a b), μ) := by
  refine mt_of (by decide +kernel) (Nat.le_of_ble_eq_true rfl) ?_
  intro p e s m args below meth c ls hf hr hlocks hl hw
  have hx := hf.1
  have hb := hf.2.1
  have hl : lv_has ls 4 [(0, .ref (E.1 (231))), (1, .int (a)), (2, .int (b))] := hl
  refine lv_iload_n hx hb dX7_slotAt_0 rfl (lv_at hl 1 rfl) ?_
  refine lv_iload_n hx hb dX7_slotAt_1 rfl (lv_at hl 2 rfl) ?_
  refine c_iR hw (run_S (As := [.int (a), .int (b)]) (rest := []) (np := 2) hf hw (kn_X7_isSlot l E _  a b  ) ⟨gl_S q353 q354 q2 q355, by decide +kernel⟩ ⟨rfl, rfl, Nat.le_of_ble_eq_true rfl, Nat.le_of_ble_eq_true rfl⟩ rfl hl.1 rfl (Nat.le_of_ble_eq_true rfl) dX7_slotAt_2 ⟨Nat.zero_le _, Nat.zero_le _⟩) (fun H locs hw => ?_)
  refine lv_if_ne (tgt := 11) hx hb dX7_slotAt_5 (by decide) (fun c1 => ?_) (fun c1 => ?_)
  · replace c1 := (bz_n0 _).mp c1
    refine lv_aload_n hx hb dX7_slotAt_11 rfl (lv_at hl 0 rfl) ?_
    refine g_f hw hf (by decide) (c_O E _) rfl inlX7 0 (by decide) rfl q23 rfl dX7_slotAt_12 ?_
    refine lv_iload_n hx hb dX7_slotAt_15 rfl (lv_at hl 1 rfl) ?_
    refine lv_iconst (v := 3) hx hb dX7_slotAt_16 (by decide) ?_
    refine lv_imul hx hb dX7_slotAt_17 ?_
    refine lv_iload_n hx hb dX7_slotAt_18 rfl (lv_at hl 2 rfl) ?_
    refine lv_iadd hx hb dX7_slotAt_19 ?_
    refine c_iR hw (run_V (As := [.int ((a * 3) + b)]) (rest := []) (np := 1) hf hw (k_X4_sensorIn l E _ (by decide) ((a * 3) + b)  ) ⟨gl_V q358 q135 q136 q22 q137, by decide +kernel⟩ ⟨rfl, rfl, Nat.le_of_ble_eq_true rfl, Nat.le_of_ble_eq_true rfl⟩ (lt_iS (by decide)) (c_iS E _ (by decide)) rfl rfl hl.1 rfl (Nat.le_of_ble_eq_true rfl) dX7_slotAt_20 ⟨Nat.zero_le _, Nat.zero_le _⟩) (fun H locs hw => ?_)
    refine lv_istore_n (lv' := [(3, .int (sp_X4_sensorIn (μ.1 0)  ((a * 3) + b))), (0, .ref (E.1 (231))), (1, .int (a)), (2, .int (b))]) hx hb dX7_slotAt_23 rfl hl (by decide) rfl (fun ls hl => ?_)
    refine lv_iload_n hx hb dX7_slotAt_24 rfl (lv_at hl 0 rfl) ?_
    refine lv_iconst (v := (-1)) hx hb dX7_slotAt_25 (by decide) ?_
    refine lv_icmp_ne (tgt := 34) hx hb dX7_slotAt_26 (by decide) (fun c2 => ?_) (fun c2 => ?_)
    · refine lv_iload_n hx hb dX7_slotAt_34 rfl (lv_at hl 0 rfl) ?_
      exact e_i hf hr hlocks hw rfl (congrArg (fun z => (z, μ)) ((if_pos c1).trans ((if_neg c2).trans rfl))) dX7_slotAt_35
    · refine lv_ldc hx hb hf.2.2.2.1 (hf.2.2.2.2 _ q106) dX7_slotAt_29 ?_
      refine lv_goto (tgt := 35) hx hb dX7_slotAt_31 (by decide) ?_
      exact e_i hf hr hlocks hw rfl (congrArg (fun z => (z, μ)) ((if_pos c1).trans ((if_pos c2).trans rfl))) dX7_slotAt_35
  · replace c1 := (bz_0 _).mp c1
    refine lv_ldc hx hb hf.2.2.2.1 (hf.2.2.2.2 _ q113) dX7_slotAt_8 ?_
    exact e_i hf hr hlocks hw rfl (congrArg (fun z => (z, μ)) ((if_neg c1).trans rfl)) dX7_slotAt_10
def sp_X7_sensorOf (g : Nat → Int32)  (a : Int32) (b : Int32) : Int32 :=
  oc (sp_X4_sensorAt g  a) (
    (-2000000001)) (fun t2 =>
    if (0 : Int64) ≤ (b.toInt64) ∧ (b.toInt64) ≤ (18 : Int64) then
      if (5 : Int64) ≤ (b.toInt64) ∧ (b.toInt64) ≤ (8 : Int64) then
        if 0 ≤ (b - 5) ∧ (b - 5) < (g (sF t2 1)) then
          sp_X3_leadOf g t2 (b - 5)
        else
          (-2000000004)
      else
        if (9 : Int64) ≤ (b.toInt64) ∧ (b.toInt64) ≤ (11 : Int64) then
          sp_X3_strainOf g t2 (b - 9)
        else
          if (b : Int32) = 0 then
            g (sF t2 0)
          else
            if (b : Int32) = 1 then
              g (sF t2 1)
            else
              if (b : Int32) = 2 then
                g (sF t2 2)
              else
                if (b : Int32) = 3 then
                  g (sF t2 3)
                else
                  if (b : Int32) = 4 then
                    g (sF t2 4)
                  else
                    if (b : Int32) = 5 then
                      g (sF t2 11)
                    else
                      if (b : Int32) = 6 then
                        g (sF t2 11)
                      else
                        if (b : Int32) = 7 then
                          g (sF t2 11)
                        else
                          if (b : Int32) = 8 then
                            g (sF t2 11)
                          else
                            if (b : Int32) = 9 then
                              g (sF t2 11)
                            else
                              if (b : Int32) = 10 then
                                g (sF t2 11)
                              else
                                if (b : Int32) = 11 then
                                  g (sF t2 11)
                                else
                                  if (b : Int32) = 12 then
                                    g (sF t2 5)
                                  else
                                    if (b : Int32) = 13 then
                                      if ¬ (g (sF t2 6)) = -1 then
                                        sp_X7_toldPlace   (g (sF t2 6))
                                      else
                                        (-2000000004)
                                    else
                                      if (b : Int32) = 14 then
                                        g (sF t2 7)
                                      else
                                        if (b : Int32) = 15 then
                                          g (sF t2 8)
                                        else
                                          if (b : Int32) = 16 then
                                            g (sF t2 9)
                                          else
                                            if (b : Int32) = 17 then
                                              g (sF t2 10)
                                            else
                                              g (sF t2 11)
    else
      (-2000000001))
set_option maxHeartbeats 4000000 in
set_option maxRecDepth 100000 in
theorem k_X7_sensorOf (l : Launch) (E : En) (μ : Mu)  (a : Int32) (b : Int32)  : MtI l yX7_sensorOf cX7_sensorOf 4 .int ({ frames := 1, cells := 0, slots := 0, locals := 25 }) [.ref (E.1 (231)), .int (a), .int (b)] E μ ((sp_X7_sensorOf (μ.1 0) a b), μ) := by
  refine mt_of (by decide +kernel) (Nat.le_of_ble_eq_true rfl) ?_
  intro p e s m args below meth c ls hf hr hlocks hl hw
  have hx := hf.1
  have hb := hf.2.1
  have hl : lv_has ls 4 [(0, .ref (E.1 (231))), (1, .int (a)), (2, .int (b))] := hl
  refine lv_aload_n hx hb dX7_sensorOf_0 rfl (lv_at hl 0 rfl) ?_
  refine g_f hw hf (by decide) (c_O E _) rfl inlX7 0 (by decide) rfl q23 rfl dX7_sensorOf_1 ?_
  refine lv_iload_n hx hb dX7_sensorOf_4 rfl (lv_at hl 1 rfl) ?_
  refine c_q hw (run_V (As := [.int (a)]) (rest := []) (np := 1) hf hw (k_X4_sensorAt l E _ (by decide) a  ) ⟨gl_V q220 q221 q222 q22 q223, by decide +kernel⟩ ⟨rfl, rfl, Nat.le_of_ble_eq_true rfl, Nat.le_of_ble_eq_true rfl⟩ (lt_iS (by decide)) (c_iS E _ (by decide)) rfl rfl hl.1 rfl (Nat.le_of_ble_eq_true rfl) dX7_sensorOf_5 ⟨Nat.zero_le _, Nat.zero_le _⟩) (fun H locs hw => ?_)
  rcases o1 : sp_X4_sensorAt (μ.1 0)  a with _ | t2
  · refine W.eq (g2 := F0 m 8 ls [.null]) rfl ?_
    refine lv_astore_nN (lv' := [(3, .null), (0, .ref (E.1 (231))), (1, .int (a)), (2, .int (b))]) hx hb dX7_sensorOf_8 rfl hl (by decide) rfl (fun ls hl => ?_)
    refine lv_aload_nN hx hb dX7_sensorOf_9 rfl (lv_at hl 0 rfl) ?_
    refine lv_ifnullN (tgt := 25) hx hb dX7_sensorOf_10 (by decide) ?_
    refine lv_ldc hx hb hf.2.2.2.1 (hf.2.2.2.2 _ q113) dX7_sensorOf_25 ?_
    exact e_i hf hr hlocks hw rfl (congrArg (fun z => (z, μ)) ((oc_none o1).trans rfl)) dX7_sensorOf_27
  · have ht3 : t2 < 6 := (b_X4_sensorAt o1)
    refine W.eq (g2 := F0 m 8 ls [.ref (E.1 (iN 0 t2))]) rfl ?_
    refine lv_astore_n (lv' := [(3, .ref (E.1 (iN 0 t2))), (0, .ref (E.1 (231))), (1, .int (a)), (2, .int (b))]) hx hb dX7_sensorOf_8 rfl hl (by decide) rfl (fun ls hl => ?_)
    refine lv_aload_n hx hb dX7_sensorOf_9 rfl (lv_at hl 0 rfl) ?_
    refine lv_ifnull hx hb dX7_sensorOf_10 ?_
    refine lv_iload_n hx hb dX7_sensorOf_13 rfl (lv_at hl 3 rfl) ?_
    refine lv_i2l hx hb dX7_sensorOf_14 rfl ?_
    refine lv_lconst (v := 0) hx hb dX7_sensorOf_15 (by decide) ?_
    refine lv_ldc2 hx hb hf.2.2.2.1 (hf.2.2.2.2 _ q203) dX7_sensorOf_16 ?_
    refine c_iR hw (run_S (As := [.long (b.toInt64), .long (0), .long (18)]) (rest := []) (np := 3) hf hw (kn_X7_isWithin l E _  (b.toInt64) (0 : Int64) (18 : Int64)  ) ⟨gl_S q114 q115 q2 q116, by decide +kernel⟩ ⟨rfl, rfl, Nat.le_of_ble_eq_true rfl, Nat.le_of_ble_eq_true rfl⟩ rfl hl.1 rfl (Nat.le_of_ble_eq_true rfl) dX7_sensorOf_19 ⟨Nat.zero_le _, Nat.zero_le _⟩) (fun H locs hw => ?_)
    refine lv_if_ne (tgt := 28) hx hb dX7_sensorOf_22 (by decide) (fun c4 => ?_) (fun c4 => ?_)
    · replace c4 := (bz_n0 _).mp c4
      refine lv_iload_n hx hb dX7_sensorOf_28 rfl (lv_at hl 3 rfl) ?_
      refine lv_i2l hx hb dX7_sensorOf_29 rfl ?_
      refine lv_ldc2 hx hb hf.2.2.2.1 (hf.2.2.2.2 _ q204) dX7_sensorOf_30 ?_
      refine lv_ldc2 hx hb hf.2.2.2.1 (hf.2.2.2.2 _ q205) dX7_sensorOf_33 ?_
      refine c_iR hw (run_S (As := [.long (b.toInt64), .long (5), .long (8)]) (rest := []) (np := 3) hf hw (kn_X7_isWithin l E _  (b.toInt64) (5 : Int64) (8 : Int64)  ) ⟨gl_S q114 q115 q2 q116, by decide +kernel⟩ ⟨rfl, rfl, Nat.le_of_ble_eq_true rfl, Nat.le_of_ble_eq_true rfl⟩ rfl hl.1 rfl (Nat.le_of_ble_eq_true rfl) dX7_sensorOf_36 ⟨Nat.zero_le _, Nat.zero_le _⟩) (fun H locs hw => ?_)
      refine lv_if_eq (tgt := 65) hx hb dX7_sensorOf_39 (by decide) (fun c5 => ?_) (fun c5 => ?_)
      · replace c5 := (bz_0 _).mp c5
        refine lv_iload_n hx hb dX7_sensorOf_65 rfl (lv_at hl 3 rfl) ?_
        refine lv_i2l hx hb dX7_sensorOf_66 rfl ?_
        refine lv_ldc2 hx hb hf.2.2.2.1 (hf.2.2.2.2 _ q206) dX7_sensorOf_67 ?_
        refine lv_ldc2 hx hb hf.2.2.2.1 (hf.2.2.2.2 _ q207) dX7_sensorOf_70 ?_
        refine c_iR hw (run_S (As := [.long (b.toInt64), .long (9), .long (11)]) (rest := []) (np := 3) hf hw (kn_X7_isWithin l E _  (b.toInt64) (9 : Int64) (11 : Int64)  ) ⟨gl_S q114 q115 q2 q116, by decide +kernel⟩ ⟨rfl, rfl, Nat.le_of_ble_eq_true rfl, Nat.le_of_ble_eq_true rfl⟩ rfl hl.1 rfl (Nat.le_of_ble_eq_true rfl) dX7_sensorOf_73 ⟨Nat.zero_le _, Nat.zero_le _⟩) (fun H locs hw => ?_)
        refine lv_if_eq (tgt := 88) hx hb dX7_sensorOf_76 (by decide) (fun c6 => ?_) (fun c6 => ?_)
        · replace c6 := (bz_0 _).mp c6
          refine lv_iload_n hx hb dX7_sensorOf_88 rfl (lv_at hl 3 rfl) ?_
          by_cases c7 : b = 0
          · refine lv_tableIn (off := 87) (tgt := 176) hx hb dX7_sensorOf_89 (by rw [c7]; decide) (by rw [c7]; decide) (by rw [c7]; rfl) (by decide) ?_
            refine lv_aload_n hx hb dX7_sensorOf_176 rfl (lv_at hl 0 rfl) ?_
            refine g_f hw hf (lt_iN (by decide) ht3) (c_iN E _ (by decide) ht3) rfl inlX3 0 (by decide) rfl q208 rfl dX7_sensorOf_177 ?_
            exact e_i hf hr hlocks hw rfl (congrArg (fun z => (z, μ)) ((oc_some o1).trans ((if_pos c4).trans ((if_neg c5).trans ((if_neg c6).trans ((if_pos c7).trans rfl)))))) dX7_sensorOf_180
          · skip
            by_cases c8 : b = 1
            · refine lv_tableIn (off := 92) (tgt := 181) hx hb dX7_sensorOf_89 (by rw [c8]; decide) (by rw [c8]; decide) (by rw [c8]; rfl) (by decide) ?_
              refine lv_aload_n hx hb dX7_sensorOf_181 rfl (lv_at hl 0 rfl) ?_
              refine g_f hw hf (lt_iN (by decide) ht3) (c_iN E _ (by decide) ht3) rfl inlX3 1 (by decide) rfl q209 rfl dX7_sensorOf_182 ?_
              exact e_i hf hr hlocks hw rfl (congrArg (fun z => (z, μ)) ((oc_some o1).trans ((if_pos c4).trans ((if_neg c5).trans ((if_neg c6).trans ((if_neg c7).trans ((if_pos c8).trans rfl))))))) dX7_sensorOf_185
            · skip
              by_cases c9 : b = 2
              · refine lv_tableIn (off := 97) (tgt := 186) hx hb dX7_sensorOf_89 (by rw [c9]; decide) (by rw [c9]; decide) (by rw [c9]; rfl) (by decide) ?_
                refine lv_aload_n hx hb dX7_sensorOf_186 rfl (lv_at hl 0 rfl) ?_
                refine g_f hw hf (lt_iN (by decide) ht3) (c_iN E _ (by decide) ht3) rfl inlX3 2 (by decide) rfl q210 rfl dX7_sensorOf_187 ?_
                exact e_i hf hr hlocks hw rfl (congrArg (fun z => (z, μ)) ((oc_some o1).trans ((if_pos c4).trans ((if_neg c5).trans ((if_neg c6).trans ((if_neg c7).trans ((if_neg c8).trans ((if_pos c9).trans rfl)))))))) dX7_sensorOf_190
              · skip
                by_cases c10 : b = 3
                · refine lv_tableIn (off := 102) (tgt := 191) hx hb dX7_sensorOf_89 (by rw [c10]; decide) (by rw [c10]; decide) (by rw [c10]; rfl) (by decide) ?_
                  refine lv_aload_n hx hb dX7_sensorOf_191 rfl (lv_at hl 0 rfl) ?_
                  refine g_f hw hf (lt_iN (by decide) ht3) (c_iN E _ (by decide) ht3) rfl inlX3 3 (by decide) rfl q211 rfl dX7_sensorOf_192 ?_
                  exact e_i hf hr hlocks hw rfl (congrArg (fun z => (z, μ)) ((oc_some o1).trans ((if_pos c4).trans ((if_neg c5).trans ((if_neg c6).trans ((if_neg c7).trans ((if_neg c8).trans ((if_neg c9).trans ((if_pos c10).trans rfl))))))))) dX7_sensorOf_195
                · skip
                  by_cases c11 : b = 4
                  · refine lv_tableIn (off := 107) (tgt := 196) hx hb dX7_sensorOf_89 (by rw [c11]; decide) (by rw [c11]; decide) (by rw [c11]; rfl) (by decide) ?_
                    refine lv_aload_n hx hb dX7_sensorOf_196 rfl (lv_at hl 0 rfl) ?_
                    refine g_f hw hf (lt_iN (by decide) ht3) (c_iN E _ (by decide) ht3) rfl inlX3 4 (by decide) rfl q212 rfl dX7_sensorOf_197 ?_
                    exact e_i hf hr hlocks hw rfl (congrArg (fun z => (z, μ)) ((oc_some o1).trans ((if_pos c4).trans ((if_neg c5).trans ((if_neg c6).trans ((if_neg c7).trans ((if_neg c8).trans ((if_neg c9).trans ((if_neg c10).trans ((if_pos c11).trans rfl)))))))))) dX7_sensorOf_200
                  · skip
                    by_cases c12 : b = 5
                    · refine lv_tableIn (off := 157) (tgt := 246) hx hb dX7_sensorOf_89 (by rw [c12]; decide) (by rw [c12]; decide) (by rw [c12]; rfl) (by decide) ?_
                      refine lv_aload_n hx hb dX7_sensorOf_246 rfl (lv_at hl 0 rfl) ?_
                      refine g_f hw hf (lt_iN (by decide) ht3) (c_iN E _ (by decide) ht3) rfl inlX3 11 (by decide) rfl q219 rfl dX7_sensorOf_247 ?_
                      exact e_i hf hr hlocks hw rfl (congrArg (fun z => (z, μ)) ((oc_some o1).trans ((if_pos c4).trans ((if_neg c5).trans ((if_neg c6).trans ((if_neg c7).trans ((if_neg c8).trans ((if_neg c9).trans ((if_neg c10).trans ((if_neg c11).trans ((if_pos c12).trans rfl))))))))))) dX7_sensorOf_250
                    · skip
                      by_cases c13 : b = 6
                      · refine lv_tableIn (off := 157) (tgt := 246) hx hb dX7_sensorOf_89 (by rw [c13]; decide) (by rw [c13]; decide) (by rw [c13]; rfl) (by decide) ?_
                        refine lv_aload_n hx hb dX7_sensorOf_246 rfl (lv_at hl 0 rfl) ?_
                        refine g_f hw hf (lt_iN (by decide) ht3) (c_iN E _ (by decide) ht3) rfl inlX3 11 (by decide) rfl q219 rfl dX7_sensorOf_247 ?_
                        exact e_i hf hr hlocks hw rfl (congrArg (fun z => (z, μ)) ((oc_some o1).trans ((if_pos c4).trans ((if_neg c5).trans ((if_neg c6).trans ((if_neg c7).trans ((if_neg c8).trans ((if_neg c9).trans ((if_neg c10).trans ((if_neg c11).trans ((if_neg c12).trans ((if_pos c13).trans rfl)))))))))))) dX7_sensorOf_250
                      · skip
                        by_cases c14 : b = 7
                        · refine lv_tableIn (off := 157) (tgt := 246) hx hb dX7_sensorOf_89 (by rw [c14]; decide) (by rw [c14]; decide) (by rw [c14]; rfl) (by decide) ?_
                          refine lv_aload_n hx hb dX7_sensorOf_246 rfl (lv_at hl 0 rfl) ?_
                          refine g_f hw hf (lt_iN (by decide) ht3) (c_iN E _ (by decide) ht3) rfl inlX3 11 (by decide) rfl q219 rfl dX7_sensorOf_247 ?_
                          exact e_i hf hr hlocks hw rfl (congrArg (fun z => (z, μ)) ((oc_some o1).trans ((if_pos c4).trans ((if_neg c5).trans ((if_neg c6).trans ((if_neg c7).trans ((if_neg c8).trans ((if_neg c9).trans ((if_neg c10).trans ((if_neg c11).trans ((if_neg c12).trans ((if_neg c13).trans ((if_pos c14).trans rfl))))))))))))) dX7_sensorOf_250
                        · skip
                          by_cases c15 : b = 8
                          · refine lv_tableIn (off := 157) (tgt := 246) hx hb dX7_sensorOf_89 (by rw [c15]; decide) (by rw [c15]; decide) (by rw [c15]; rfl) (by decide) ?_
                            refine lv_aload_n hx hb dX7_sensorOf_246 rfl (lv_at hl 0 rfl) ?_
                            refine g_f hw hf (lt_iN (by decide) ht3) (c_iN E _ (by decide) ht3) rfl inlX3 11 (by decide) rfl q219 rfl dX7_sensorOf_247 ?_
                            exact e_i hf hr hlocks hw rfl (congrArg (fun z => (z, μ)) ((oc_some o1).trans ((if_pos c4).trans ((if_neg c5).trans ((if_neg c6).trans ((if_neg c7).trans ((if_neg c8).trans ((if_neg c9).trans ((if_neg c10).trans ((if_neg c11).trans ((if_neg c12).trans ((if_neg c13).trans ((if_neg c14).trans ((if_pos c15).trans rfl)))))))))))))) dX7_sensorOf_250
                          · skip
                            by_cases c16 : b = 9
                            · refine lv_tableIn (off := 157) (tgt := 246) hx hb dX7_sensorOf_89 (by rw [c16]; decide) (by rw [c16]; decide) (by rw [c16]; rfl) (by decide) ?_
                              refine lv_aload_n hx hb dX7_sensorOf_246 rfl (lv_at hl 0 rfl) ?_
                              refine g_f hw hf (lt_iN (by decide) ht3) (c_iN E _ (by decide) ht3) rfl inlX3 11 (by decide) rfl q219 rfl dX7_sensorOf_247 ?_
                              exact e_i hf hr hlocks hw rfl (congrArg (fun z => (z, μ)) ((oc_some o1).trans ((if_pos c4).trans ((if_neg c5).trans ((if_neg c6).trans ((if_neg c7).trans ((if_neg c8).trans ((if_neg c9).trans ((if_neg c10).trans ((if_neg c11).trans ((if_neg c12).trans ((if_neg c13).trans ((if_neg c14).trans ((if_neg c15).trans ((if_pos c16).trans rfl))))))))))))))) dX7_sensorOf_250
                            · skip
                              by_cases c17 : b = 10
                              · refine lv_tableIn (off := 157) (tgt := 246) hx hb dX7_sensorOf_89 (by rw [c17]; decide) (by rw [c17]; decide) (by rw [c17]; rfl) (by decide) ?_
                                refine lv_aload_n hx hb dX7_sensorOf_246 rfl (lv_at hl 0 rfl) ?_
                                refine g_f hw hf (lt_iN (by decide) ht3) (c_iN E _ (by decide) ht3) rfl inlX3 11 (by decide) rfl q219 rfl dX7_sensorOf_247 ?_
                                exact e_i hf hr hlocks hw rfl (congrArg (fun z => (z, μ)) ((oc_some o1).trans ((if_pos c4).trans ((if_neg c5).trans ((if_neg c6).trans ((if_neg c7).trans ((if_neg c8).trans ((if_neg c9).trans ((if_neg c10).trans ((if_neg c11).trans ((if_neg c12).trans ((if_neg c13).trans ((if_neg c14).trans ((if_neg c15).trans ((if_neg c16).trans ((if_pos c17).trans rfl)))))))))))))))) dX7_sensorOf_250
                              · skip
                                by_cases c18 : b = 11
                                · refine lv_tableIn (off := 157) (tgt := 246) hx hb dX7_sensorOf_89 (by rw [c18]; decide) (by rw [c18]; decide) (by rw [c18]; rfl) (by decide) ?_
                                  refine lv_aload_n hx hb dX7_sensorOf_246 rfl (lv_at hl 0 rfl) ?_
                                  refine g_f hw hf (lt_iN (by decide) ht3) (c_iN E _ (by decide) ht3) rfl inlX3 11 (by decide) rfl q219 rfl dX7_sensorOf_247 ?_
                                  exact e_i hf hr hlocks hw rfl (congrArg (fun z => (z, μ)) ((oc_some o1).trans ((if_pos c4).trans ((if_neg c5).trans ((if_neg c6).trans ((if_neg c7).trans ((if_neg c8).trans ((if_neg c9).trans ((if_neg c10).trans ((if_neg c11).trans ((if_neg c12).trans ((if_neg c13).trans ((if_neg c14).trans ((if_neg c15).trans ((if_neg c16).trans ((if_neg c17).trans ((if_pos c18).trans rfl))))))))))))))))) dX7_sensorOf_250
                                · skip
                                  by_cases c19 : b = 12
                                  · refine lv_tableIn (off := 112) (tgt := 201) hx hb dX7_sensorOf_89 (by rw [c19]; decide) (by rw [c19]; decide) (by rw [c19]; rfl) (by decide) ?_
                                    refine lv_aload_n hx hb dX7_sensorOf_201 rfl (lv_at hl 0 rfl) ?_
                                    refine g_f hw hf (lt_iN (by decide) ht3) (c_iN E _ (by decide) ht3) rfl inlX3 5 (by decide) rfl q213 rfl dX7_sensorOf_202 ?_
                                    exact e_i hf hr hlocks hw rfl (congrArg (fun z => (z, μ)) ((oc_some o1).trans ((if_pos c4).trans ((if_neg c5).trans ((if_neg c6).trans ((if_neg c7).trans ((if_neg c8).trans ((if_neg c9).trans ((if_neg c10).trans ((if_neg c11).trans ((if_neg c12).trans ((if_neg c13).trans ((if_neg c14).trans ((if_neg c15).trans ((if_neg c16).trans ((if_neg c17).trans ((if_neg c18).trans ((if_pos c19).trans rfl)))))))))))))))))) dX7_sensorOf_205
                                  · skip
                                    by_cases c20 : b = 13
                                    · refine lv_tableIn (off := 117) (tgt := 206) hx hb dX7_sensorOf_89 (by rw [c20]; decide) (by rw [c20]; decide) (by rw [c20]; rfl) (by decide) ?_
                                      refine lv_aload_n hx hb dX7_sensorOf_206 rfl (lv_at hl 0 rfl) ?_
                                      refine c_iR hw (run_V (As := []) (rest := []) (np := 0) hf hw (kn_X3_isPlugged l E _ (by decide) ht3   ) ⟨gl_V q237 q238 q239 q56 q240, by decide +kernel⟩ ⟨rfl, rfl, Nat.le_of_ble_eq_true rfl, Nat.le_of_ble_eq_true rfl⟩ (lt_iN (by decide) ht3) (c_iN E _ (by decide) ht3) rfl rfl hl.1 rfl (Nat.le_of_ble_eq_true rfl) dX7_sensorOf_207 ⟨Nat.zero_le _, Nat.zero_le _⟩) (fun H locs hw => ?_)
                                      refine lv_if_eq (tgt := 223) hx hb dX7_sensorOf_210 (by decide) (fun c21 => ?_) (fun c21 => ?_)
                                      · replace c21 := (bz_0 _).mp c21
                                        refine lv_ldc hx hb hf.2.2.2.1 (hf.2.2.2.2 _ q106) dX7_sensorOf_223 ?_
                                        exact e_i hf hr hlocks hw rfl (congrArg (fun z => (z, μ)) ((oc_some o1).trans ((if_pos c4).trans ((if_neg c5).trans ((if_neg c6).trans ((if_neg c7).trans ((if_neg c8).trans ((if_neg c9).trans ((if_neg c10).trans ((if_neg c11).trans ((if_neg c12).trans ((if_neg c13).trans ((if_neg c14).trans ((if_neg c15).trans ((if_neg c16).trans ((if_neg c17).trans ((if_neg c18).trans ((if_neg c19).trans ((if_pos c20).trans ((if_neg c21).trans rfl)))))))))))))))))))) dX7_sensorOf_225
                                      · replace c21 := (bz_n0 _).mp c21
                                        refine lv_aload_n hx hb dX7_sensorOf_213 rfl (lv_at hl 0 rfl) ?_
                                        refine g_f hw hf (lt_iN (by decide) ht3) (c_iN E _ (by decide) ht3) rfl inlX3 6 (by decide) rfl q214 rfl dX7_sensorOf_214 ?_
                                        refine c_iR hw (run_S (As := [.int (μ.1 0 (sF t2 6))]) (rest := []) (np := 1) hf hw (k_X7_toldPlace l E _  (μ.1 0 (sF t2 6))  ) ⟨gl_S q150 q151 q2 q152, by decide +kernel⟩ ⟨rfl, rfl, Nat.le_of_ble_eq_true rfl, Nat.le_of_ble_eq_true rfl⟩ rfl hl.1 rfl (Nat.le_of_ble_eq_true rfl) dX7_sensorOf_217 ⟨Nat.zero_le _, Nat.zero_le _⟩) (fun H locs hw => ?_)
                                        refine lv_goto (tgt := 225) hx hb dX7_sensorOf_220 (by decide) ?_
                                        exact e_i hf hr hlocks hw rfl (congrArg (fun z => (z, μ)) ((oc_some o1).trans ((if_pos c4).trans ((if_neg c5).trans ((if_neg c6).trans ((if_neg c7).trans ((if_neg c8).trans ((if_neg c9).trans ((if_neg c10).trans ((if_neg c11).trans ((if_neg c12).trans ((if_neg c13).trans ((if_neg c14).trans ((if_neg c15).trans ((if_neg c16).trans ((if_neg c17).trans ((if_neg c18).trans ((if_neg c19).trans ((if_pos c20).trans ((if_pos c21).trans rfl)))))))))))))))))))) dX7_sensorOf_225
                                    · skip
                                      by_cases c22 : b = 14
                                      · refine lv_tableIn (off := 137) (tgt := 226) hx hb dX7_sensorOf_89 (by rw [c22]; decide) (by rw [c22]; decide) (by rw [c22]; rfl) (by decide) ?_
                                        refine lv_aload_n hx hb dX7_sensorOf_226 rfl (lv_at hl 0 rfl) ?_
                                        refine g_f hw hf (lt_iN (by decide) ht3) (c_iN E _ (by decide) ht3) rfl inlX3 7 (by decide) rfl q215 rfl dX7_sensorOf_227 ?_
                                        exact e_i hf hr hlocks hw rfl (congrArg (fun z => (z, μ)) ((oc_some o1).trans ((if_pos c4).trans ((if_neg c5).trans ((if_neg c6).trans ((if_neg c7).trans ((if_neg c8).trans ((if_neg c9).trans ((if_neg c10).trans ((if_neg c11).trans ((if_neg c12).trans ((if_neg c13).trans ((if_neg c14).trans ((if_neg c15).trans ((if_neg c16).trans ((if_neg c17).trans ((if_neg c18).trans ((if_neg c19).trans ((if_neg c20).trans ((if_pos c22).trans rfl)))))))))))))))))))) dX7_sensorOf_230
                                      · skip
                                        by_cases c23 : b = 15
                                        · refine lv_tableIn (off := 142) (tgt := 231) hx hb dX7_sensorOf_89 (by rw [c23]; decide) (by rw [c23]; decide) (by rw [c23]; rfl) (by decide) ?_
                                          refine lv_aload_n hx hb dX7_sensorOf_231 rfl (lv_at hl 0 rfl) ?_
                                          refine g_f hw hf (lt_iN (by decide) ht3) (c_iN E _ (by decide) ht3) rfl inlX3 8 (by decide) rfl q216 rfl dX7_sensorOf_232 ?_
                                          exact e_i hf hr hlocks hw rfl (congrArg (fun z => (z, μ)) ((oc_some o1).trans ((if_pos c4).trans ((if_neg c5).trans ((if_neg c6).trans ((if_neg c7).trans ((if_neg c8).trans ((if_neg c9).trans ((if_neg c10).trans ((if_neg c11).trans ((if_neg c12).trans ((if_neg c13).trans ((if_neg c14).trans ((if_neg c15).trans ((if_neg c16).trans ((if_neg c17).trans ((if_neg c18).trans ((if_neg c19).trans ((if_neg c20).trans ((if_neg c22).trans ((if_pos c23).trans rfl))))))))))))))))))))) dX7_sensorOf_235
                                        · skip
                                          by_cases c24 : b = 16
                                          · refine lv_tableIn (off := 147) (tgt := 236) hx hb dX7_sensorOf_89 (by rw [c24]; decide) (by rw [c24]; decide) (by rw [c24]; rfl) (by decide) ?_
                                            refine lv_aload_n hx hb dX7_sensorOf_236 rfl (lv_at hl 0 rfl) ?_
                                            refine g_f hw hf (lt_iN (by decide) ht3) (c_iN E _ (by decide) ht3) rfl inlX3 9 (by decide) rfl q217 rfl dX7_sensorOf_237 ?_
                                            exact e_i hf hr hlocks hw rfl (congrArg (fun z => (z, μ)) ((oc_some o1).trans ((if_pos c4).trans ((if_neg c5).trans ((if_neg c6).trans ((if_neg c7).trans ((if_neg c8).trans ((if_neg c9).trans ((if_neg c10).trans ((if_neg c11).trans ((if_neg c12).trans ((if_neg c13).trans ((if_neg c14).trans ((if_neg c15).trans ((if_neg c16).trans ((if_neg c17).trans ((if_neg c18).trans ((if_neg c19).trans ((if_neg c20).trans ((if_neg c22).trans ((if_neg c23).trans ((if_pos c24).trans rfl)))))))))))))))))))))) dX7_sensorOf_240
                                          · skip
                                            by_cases c25 : b = 17
                                            · refine lv_tableIn (off := 152) (tgt := 241) hx hb dX7_sensorOf_89 (by rw [c25]; decide) (by rw [c25]; decide) (by rw [c25]; rfl) (by decide) ?_
                                              refine lv_aload_n hx hb dX7_sensorOf_241 rfl (lv_at hl 0 rfl) ?_
                                              refine g_f hw hf (lt_iN (by decide) ht3) (c_iN E _ (by decide) ht3) rfl inlX3 10 (by decide) rfl q218 rfl dX7_sensorOf_242 ?_
                                              exact e_i hf hr hlocks hw rfl (congrArg (fun z => (z, μ)) ((oc_some o1).trans ((if_pos c4).trans ((if_neg c5).trans ((if_neg c6).trans ((if_neg c7).trans ((if_neg c8).trans ((if_neg c9).trans ((if_neg c10).trans ((if_neg c11).trans ((if_neg c12).trans ((if_neg c13).trans ((if_neg c14).trans ((if_neg c15).trans ((if_neg c16).trans ((if_neg c17).trans ((if_neg c18).trans ((if_neg c19).trans ((if_neg c20).trans ((if_neg c22).trans ((if_neg c23).trans ((if_neg c24).trans ((if_pos c25).trans rfl))))))))))))))))))))))) dX7_sensorOf_245
                                            · skip
                                              have hsw : b.toInt ≠ 0 ∧ b.toInt ≠ 1 ∧ b.toInt ≠ 2 ∧ b.toInt ≠ 3 ∧ b.toInt ≠ 4 ∧ b.toInt ≠ 5 ∧ b.toInt ≠ 6 ∧ b.toInt ≠ 7 ∧ b.toInt ≠ 8 ∧ b.toInt ≠ 9 ∧ b.toInt ≠ 10 ∧ b.toInt ≠ 11 ∧ b.toInt ≠ 12 ∧ b.toInt ≠ 13 ∧ b.toInt ≠ 14 ∧ b.toInt ≠ 15 ∧ b.toInt ≠ 16 ∧ b.toInt ≠ 17 := ⟨ne_toInt c7 (by decide), ne_toInt c8 (by decide), ne_toInt c9 (by decide), ne_toInt c10 (by decide), ne_toInt c11 (by decide), ne_toInt c12 (by decide), ne_toInt c13 (by decide), ne_toInt c14 (by decide), ne_toInt c15 (by decide), ne_toInt c16 (by decide), ne_toInt c17 (by decide), ne_toInt c18 (by decide), ne_toInt c19 (by decide), ne_toInt c20 (by decide), ne_toInt c22 (by decide), ne_toInt c23 (by decide), ne_toInt c24 (by decide), ne_toInt c25 (by decide)⟩
                                              refine lv_tableOut (tgt := 246) hx hb dX7_sensorOf_89 (by omega) (by decide) ?_
                                              refine lv_aload_n hx hb dX7_sensorOf_246 rfl (lv_at hl 0 rfl) ?_
                                              refine g_f hw hf (lt_iN (by decide) ht3) (c_iN E _ (by decide) ht3) rfl inlX3 11 (by decide) rfl q219 rfl dX7_sensorOf_247 ?_
                                              exact e_i hf hr hlocks hw rfl (congrArg (fun z => (z, μ)) ((oc_some o1).trans ((if_pos c4).trans ((if_neg c5).trans ((if_neg c6).trans ((if_neg c7).trans ((if_neg c8).trans ((if_neg c9).trans ((if_neg c10).trans ((if_neg c11).trans ((if_neg c12).trans ((if_neg c13).trans ((if_neg c14).trans ((if_neg c15).trans ((if_neg c16).trans ((if_neg c17).trans ((if_neg c18).trans ((if_neg c19).trans ((if_neg c20).trans ((if_neg c22).trans ((if_neg c23).trans ((if_neg c24).trans ((if_neg c25).trans rfl))))))))))))))))))))))) dX7_sensorOf_250
        · replace c6 := (bz_n0 _).mp c6
          refine lv_aload_n hx hb dX7_sensorOf_79 rfl (lv_at hl 0 rfl) ?_
          refine lv_iload_n hx hb dX7_sensorOf_80 rfl (lv_at hl 3 rfl) ?_
          refine lv_bipush (v := 9) hx hb dX7_sensorOf_81 (by decide) ?_
          refine lv_isub hx hb dX7_sensorOf_83 ?_
          refine c_iR hw (run_V (As := [.int (b - 9)]) (rest := []) (np := 1) hf hw (k_X3_strainOf l E _ (by decide) ht3 (b - 9)  ) ⟨gl_V q233 q234 q235 q56 q236, by decide +kernel⟩ ⟨rfl, rfl, Nat.le_of_ble_eq_true rfl, Nat.le_of_ble_eq_true rfl⟩ (lt_iN (by decide) ht3) (c_iN E _ (by decide) ht3) rfl rfl hl.1 rfl (Nat.le_of_ble_eq_true rfl) dX7_sensorOf_84 ⟨Nat.zero_le _, Nat.zero_le _⟩) (fun H locs hw => ?_)
          exact e_i hf hr hlocks hw rfl (congrArg (fun z => (z, μ)) ((oc_some o1).trans ((if_pos c4).trans ((if_neg c5).trans ((if_pos c6).trans rfl))))) dX7_sensorOf_87
      · replace c5 := (bz_n0 _).mp c5
        refine lv_aload_n hx hb dX7_sensorOf_42 rfl (lv_at hl 0 rfl) ?_
        refine lv_iload_n hx hb dX7_sensorOf_43 rfl (lv_at hl 3 rfl) ?_
        refine lv_iconst (v := 5) hx hb dX7_sensorOf_44 (by decide) ?_
        refine lv_isub hx hb dX7_sensorOf_45 ?_
        refine c_iR hw (run_V (As := [.int (b - 5)]) (rest := []) (np := 1) hf hw (kn_X3_hasWire l E _ (by decide) ht3 (b - 5)  ) ⟨gl_V q224 q225 q226 q56 q227, by decide +kernel⟩ ⟨rfl, rfl, Nat.le_of_ble_eq_true rfl, Nat.le_of_ble_eq_true rfl⟩ (lt_iN (by decide) ht3) (c_iN E _ (by decide) ht3) rfl rfl hl.1 rfl (Nat.le_of_ble_eq_true rfl) dX7_sensorOf_46 ⟨Nat.zero_le _, Nat.zero_le _⟩) (fun H locs hw => ?_)
        refine lv_if_eq (tgt := 62) hx hb dX7_sensorOf_49 (by decide) (fun c26 => ?_) (fun c26 => ?_)
        · replace c26 := (bz_0 _).mp c26
          refine lv_ldc hx hb hf.2.2.2.1 (hf.2.2.2.2 _ q106) dX7_sensorOf_62 ?_
          exact e_i hf hr hlocks hw rfl (congrArg (fun z => (z, μ)) ((oc_some o1).trans ((if_pos c4).trans ((if_pos c5).trans ((if_neg c26).trans rfl))))) dX7_sensorOf_64
        · replace c26 := (bz_n0 _).mp c26
          refine lv_aload_n hx hb dX7_sensorOf_52 rfl (lv_at hl 0 rfl) ?_
          refine lv_iload_n hx hb dX7_sensorOf_53 rfl (lv_at hl 3 rfl) ?_
          refine lv_iconst (v := 5) hx hb dX7_sensorOf_54 (by decide) ?_
          refine lv_isub hx hb dX7_sensorOf_55 ?_
          refine c_iR hw (run_V (As := [.int (b - 5)]) (rest := []) (np := 1) hf hw (k_X3_leadOf l E _ (by decide) ht3 (b - 5)  ) ⟨gl_V q229 q230 q231 q56 q232, by decide +kernel⟩ ⟨rfl, rfl, Nat.le_of_ble_eq_true rfl, Nat.le_of_ble_eq_true rfl⟩ (lt_iN (by decide) ht3) (c_iN E _ (by decide) ht3) rfl rfl hl.1 rfl (Nat.le_of_ble_eq_true rfl) dX7_sensorOf_56 ⟨Nat.zero_le _, Nat.zero_le _⟩) (fun H locs hw => ?_)
          refine lv_goto (tgt := 64) hx hb dX7_sensorOf_59 (by decide) ?_
          exact e_i hf hr hlocks hw rfl (congrArg (fun z => (z, μ)) ((oc_some o1).trans ((if_pos c4).trans ((if_pos c5).trans ((if_pos c26).trans rfl))))) dX7_sensorOf_64
    · replace c4 := (bz_0 _).mp c4
      refine lv_ldc hx hb hf.2.2.2.1 (hf.2.2.2.2 _ q113) dX7_sensorOf_25 ?_
      exact e_i hf hr hlocks hw rfl (congrArg (fun z => (z, μ)) ((oc_some o1).trans ((if_neg c4).trans rfl))) dX7_sensorOf_27
def sp_X7_readingAt (g : Nat → Int32)  (a : Int32) (b : Int32) : Int32 :=
  oc (sp_X4_sensorAt g  a) (
    (-2000000001)) (fun t2 =>
    if (0 : Int32) ≤ b then
      if (sp_X3_keptReadings g t2  : Int32) ≤ b then
        (-2000000004)
      else
        sp_X3_reading g t2 b
    else
      (-2000000001))
set_option maxHeartbeats 4000000 in
set_option maxRecDepth 100000 in
theorem k_X7_readingAt (l : Launch) (E : En) (μ : Mu)  (a : Int32) (b : Int32)  : MtI l yX7_readingAt cX7_readingAt 4 .int ({ frames := 2, cells := 0, slots := 0, locals := 33 }) [.ref (E.1 (231)), .int (a), .int (b)] E μ ((sp_X7_readingAt (μ.1 0) a b), μ) := by
  refine mt_of (by decide +kernel) (Nat.le_of_ble_eq_true rfl) ?_
  intro p e s m args below meth c ls hf hr hlocks hl hw
  have hx := hf.1
  have hb := hf.2.1
  have hl : lv_has ls 4 [(0, .ref (E.1 (231))), (1, .int (a)), (2, .int (b))] := hl
  refine lv_aload_n hx hb dX7_readingAt_0 rfl (lv_at hl 0 rfl) ?_
  refine g_f hw hf (by decide) (c_O E _) rfl inlX7 0 (by decide) rfl q23 rfl dX7_readingAt_1 ?_
  refine lv_iload_n hx hb dX7_readingAt_4 rfl (lv_at hl 1 rfl) ?_
  refine c_q hw (run_V (As := [.int (a)]) (rest := []) (np := 1) hf hw (k_X4_sensorAt l E _ (by decide) a  ) ⟨gl_V q220 q221 q222 q22 q223, by decide +kernel⟩ ⟨rfl, rfl, Nat.le_of_ble_eq_true rfl, Nat.le_of_ble_eq_true rfl⟩ (lt_iS (by decide)) (c_iS E _ (by decide)) rfl rfl hl.1 rfl (Nat.le_of_ble_eq_true rfl) dX7_readingAt_5 ⟨Nat.zero_le _, Nat.zero_le _⟩) (fun H locs hw => ?_)
  rcases o1 : sp_X4_sensorAt (μ.1 0)  a with _ | t2
  · refine W.eq (g2 := F0 m 8 ls [.null]) rfl ?_
    refine lv_astore_nN (lv' := [(3, .null), (0, .ref (E.1 (231))), (1, .int (a)), (2, .int (b))]) hx hb dX7_readingAt_8 rfl hl (by decide) rfl (fun ls hl => ?_)
    refine lv_aload_nN hx hb dX7_readingAt_9 rfl (lv_at hl 0 rfl) ?_
    refine lv_ifnullN (tgt := 17) hx hb dX7_readingAt_10 (by decide) ?_
    refine lv_ldc hx hb hf.2.2.2.1 (hf.2.2.2.2 _ q113) dX7_readingAt_17 ?_
    exact e_i hf hr hlocks hw rfl (congrArg (fun z => (z, μ)) ((oc_none o1).trans rfl)) dX7_readingAt_19
  · have ht3 : t2 < 6 := (b_X4_sensorAt o1)
    refine W.eq (g2 := F0 m 8 ls [.ref (E.1 (iN 0 t2))]) rfl ?_
    refine lv_astore_n (lv' := [(3, .ref (E.1 (iN 0 t2))), (0, .ref (E.1 (231))), (1, .int (a)), (2, .int (b))]) hx hb dX7_readingAt_8 rfl hl (by decide) rfl (fun ls hl => ?_)
    refine lv_aload_n hx hb dX7_readingAt_9 rfl (lv_at hl 0 rfl) ?_
    refine lv_ifnull hx hb dX7_readingAt_10 ?_
    refine lv_iload_n hx hb dX7_readingAt_13 rfl (lv_at hl 3 rfl) ?_
    refine lv_if_ge (tgt := 20) hx hb dX7_readingAt_14 (by decide) (fun c4 => ?_) (fun c4 => ?_)
    · refine lv_iload_n hx hb dX7_readingAt_20 rfl (lv_at hl 3 rfl) ?_
      refine lv_aload_n hx hb dX7_readingAt_21 rfl (lv_at hl 0 rfl) ?_
      refine c_iR hw (run_V (As := []) (rest := [.int (b)]) (np := 0) hf hw (k_X3_keptReadings l E _ (by decide) ht3   ) ⟨gl_V q519 q520 q521 q56 q522, by decide +kernel⟩ ⟨rfl, rfl, Nat.le_of_ble_eq_true rfl, Nat.le_of_ble_eq_true rfl⟩ (lt_iN (by decide) ht3) (c_iN E _ (by decide) ht3) rfl rfl hl.1 rfl (Nat.le_of_ble_eq_true rfl) dX7_readingAt_22 ⟨Nat.zero_le _, Nat.zero_le _⟩) (fun H locs hw => ?_)
      refine lv_icmp_ge (tgt := 36) hx hb dX7_readingAt_25 (by decide) (fun c5 => ?_) (fun c5 => ?_)
      · refine lv_ldc hx hb hf.2.2.2.1 (hf.2.2.2.2 _ q106) dX7_readingAt_36 ?_
        exact e_i hf hr hlocks hw rfl (congrArg (fun z => (z, μ)) ((oc_some o1).trans ((if_pos c4).trans ((if_pos c5).trans rfl)))) dX7_readingAt_38
      · refine lv_aload_n hx hb dX7_readingAt_28 rfl (lv_at hl 0 rfl) ?_
        refine lv_iload_n hx hb dX7_readingAt_29 rfl (lv_at hl 3 rfl) ?_
        refine c_iR hw (run_V (As := [.int (b)]) (rest := []) (np := 1) hf hw (k_X3_reading l E _ (by decide) ht3 b  ) ⟨gl_V q524 q525 q526 q56 q527, by decide +kernel⟩ ⟨rfl, rfl, Nat.le_of_ble_eq_true rfl, Nat.le_of_ble_eq_true rfl⟩ (lt_iN (by decide) ht3) (c_iN E _ (by decide) ht3) rfl rfl hl.1 rfl (Nat.le_of_ble_eq_true rfl) dX7_readingAt_30 ⟨Nat.zero_le _, Nat.zero_le _⟩) (fun H locs hw => ?_)
        refine lv_goto (tgt := 38) hx hb dX7_readingAt_33 (by decide) ?_
        exact e_i hf hr hlocks hw rfl (congrArg (fun z => (z, μ)) ((oc_some o1).trans ((if_pos c4).trans ((if_neg c5).trans rfl)))) dX7_readingAt_38
    · refine lv_ldc hx hb hf.2.2.2.1 (hf.2.2.2.2 _ q113) dX7_readingAt_17 ?_
      exact e_i hf hr hlocks hw rfl (congrArg (fun z => (z, μ)) ((oc_some o1).trans ((if_neg c4).trans rfl))) dX7_readingAt_19
def sp_X7_count (M : Nat → Nat → Int32)  (a : Int32) : Int32 :=
  if (20 : Int64) ≤ (a.toInt64) ∧ (a.toInt64) ≤ (26 : Int64) then
    sp_X4_setting (M 0)  (a - 20)
  else
    if (10 : Int64) ≤ (a.toInt64) ∧ (a.toInt64) ≤ (12 : Int64) then
      oc (sp_X4_tableAt (M 0)  (a - 10)) (
        (-2000000004)) (fun t13 =>
        M 0 (tN t13))
    else
      if (a : Int32) = 0 then
        M 0 0
      else
        if (a : Int32) = 1 then
          M 0 1
        else
          if (a : Int32) = 2 then
            sp_X4_pluggedSensors (M 0)  
          else
            if (a : Int32) = 3 then
              sp_X4_alarmsOn (M 0)  
            else
              if (a : Int32) = 4 then
                sp_X4_allReadings (M 0)  
              else
                if (a : Int32) = 5 then
                  if (M 0 2 : Int32) = (-1) then
                    (-2000000004)
                  else
                    sp_X7_toldPlace   (M 0 2)
                else
                  if (a : Int32) = 6 then
                    M 6 0
                  else
                    if (a : Int32) = 7 then
                      M 6 3
                    else
                      (-2000000001)
set_option maxHeartbeats 4000000 in
set_option maxRecDepth 100000 in
theorem k_X7_count (l : Launch) (E : En) (μ : Mu)  (a : Int32)  : MtI l yX7_count cX7_count 3 .int ({ frames := 3, cells := 0, slots := 0, locals := 67 }) [.ref (E.1 (231)), .int (a)] E μ ((sp_X7_count μ.1 a), μ) := by
  refine mt_of (by decide +kernel) (Nat.le_of_ble_eq_true rfl) ?_
  intro p e s m args below meth c ls hf hr hlocks hl hw
  have hx := hf.1
  have hb := hf.2.1
  have hl : lv_has ls 3 [(0, .ref (E.1 (231))), (1, .int (a))] := hl
  refine lv_iload_n hx hb dX7_count_0 rfl (lv_at hl 1 rfl) ?_
  refine lv_i2l hx hb dX7_count_1 rfl ?_
  refine lv_ldc2 hx hb hf.2.2.2.1 (hf.2.2.2.2 _ q102) dX7_count_2 ?_
  refine lv_ldc2 hx hb hf.2.2.2.1 (hf.2.2.2.2 _ q103) dX7_count_5 ?_
  refine c_iR hw (run_S (As := [.long (a.toInt64), .long (20), .long (26)]) (rest := []) (np := 3) hf hw (kn_X7_isWithin l E _  (a.toInt64) (20 : Int64) (26 : Int64)  ) ⟨gl_S q114 q115 q2 q116, by decide +kernel⟩ ⟨rfl, rfl, Nat.le_of_ble_eq_true rfl, Nat.le_of_ble_eq_true rfl⟩ rfl hl.1 rfl (Nat.le_of_ble_eq_true rfl) dX7_count_8 ⟨Nat.zero_le _, Nat.zero_le _⟩) (fun H locs hw => ?_)
  refine lv_if_eq (tgt := 26) hx hb dX7_count_11 (by decide) (fun c1 => ?_) (fun c1 => ?_)
  · replace c1 := (bz_0 _).mp c1
    refine lv_iload_n hx hb dX7_count_26 rfl (lv_at hl 1 rfl) ?_
    refine lv_i2l hx hb dX7_count_27 rfl ?_
    refine lv_ldc2 hx hb hf.2.2.2.1 (hf.2.2.2.2 _ q104) dX7_count_28 ?_
    refine lv_ldc2 hx hb hf.2.2.2.1 (hf.2.2.2.2 _ q105) dX7_count_31 ?_
    refine c_iR hw (run_S (As := [.long (a.toInt64), .long (10), .long (12)]) (rest := []) (np := 3) hf hw (kn_X7_isWithin l E _  (a.toInt64) (10 : Int64) (12 : Int64)  ) ⟨gl_S q114 q115 q2 q116, by decide +kernel⟩ ⟨rfl, rfl, Nat.le_of_ble_eq_true rfl, Nat.le_of_ble_eq_true rfl⟩ rfl hl.1 rfl (Nat.le_of_ble_eq_true rfl) dX7_count_34 ⟨Nat.zero_le _, Nat.zero_le _⟩) (fun H locs hw => ?_)
    refine lv_if_eq (tgt := 66) hx hb dX7_count_37 (by decide) (fun c2 => ?_) (fun c2 => ?_)
    · replace c2 := (bz_0 _).mp c2
      refine lv_iload_n hx hb dX7_count_66 rfl (lv_at hl 1 rfl) ?_
      by_cases c3 : a = 0
      · refine lv_tableIn (off := 45) (tgt := 112) hx hb dX7_count_67 (by rw [c3]; decide) (by rw [c3]; decide) (by rw [c3]; rfl) (by decide) ?_
        refine lv_aload_n hx hb dX7_count_112 rfl (lv_at hl 0 rfl) ?_
        refine g_f hw hf (by decide) (c_O E _) rfl inlX7 0 (by decide) rfl q23 rfl dX7_count_113 ?_
        refine g_f hw hf (lt_iS (by decide)) (c_iS E _ (by decide)) rfl inlX4 0 (by decide) rfl q108 rfl dX7_count_116 ?_
        exact e_i hf hr hlocks hw rfl (congrArg (fun z => (z, μ)) ((if_neg c1).trans ((if_neg c2).trans ((if_pos c3).trans rfl)))) dX7_count_119
      · skip
        by_cases c4 : a = 1
        · refine lv_tableIn (off := 53) (tgt := 120) hx hb dX7_count_67 (by rw [c4]; decide) (by rw [c4]; decide) (by rw [c4]; rfl) (by decide) ?_
          refine lv_aload_n hx hb dX7_count_120 rfl (lv_at hl 0 rfl) ?_
          refine g_f hw hf (by decide) (c_O E _) rfl inlX7 0 (by decide) rfl q23 rfl dX7_count_121 ?_
          refine g_f hw hf (lt_iS (by decide)) (c_iS E _ (by decide)) rfl inlX4 1 (by decide) rfl q109 rfl dX7_count_124 ?_
          exact e_i hf hr hlocks hw rfl (congrArg (fun z => (z, μ)) ((if_neg c1).trans ((if_neg c2).trans ((if_neg c3).trans ((if_pos c4).trans rfl))))) dX7_count_127
        · skip
          by_cases c5 : a = 2
          · refine lv_tableIn (off := 61) (tgt := 128) hx hb dX7_count_67 (by rw [c5]; decide) (by rw [c5]; decide) (by rw [c5]; rfl) (by decide) ?_
            refine lv_aload_n hx hb dX7_count_128 rfl (lv_at hl 0 rfl) ?_
            refine g_f hw hf (by decide) (c_O E _) rfl inlX7 0 (by decide) rfl q23 rfl dX7_count_129 ?_
            refine c_iR hw (run_V (As := []) (rest := []) (np := 0) hf hw (k_X4_pluggedSensors l E _ (by decide)   ) ⟨gl_V q126 q127 q128 q22 q129, by decide +kernel⟩ ⟨rfl, rfl, Nat.le_of_ble_eq_true rfl, Nat.le_of_ble_eq_true rfl⟩ (lt_iS (by decide)) (c_iS E _ (by decide)) rfl rfl hl.1 rfl (Nat.le_of_ble_eq_true rfl) dX7_count_132 ⟨Nat.zero_le _, Nat.zero_le _⟩) (fun H locs hw => ?_)
            exact e_i hf hr hlocks hw rfl (congrArg (fun z => (z, μ)) ((if_neg c1).trans ((if_neg c2).trans ((if_neg c3).trans ((if_neg c4).trans ((if_pos c5).trans rfl)))))) dX7_count_135
          · skip
            by_cases c6 : a = 3
            · refine lv_tableIn (off := 69) (tgt := 136) hx hb dX7_count_67 (by rw [c6]; decide) (by rw [c6]; decide) (by rw [c6]; rfl) (by decide) ?_
              refine lv_aload_n hx hb dX7_count_136 rfl (lv_at hl 0 rfl) ?_
              refine g_f hw hf (by decide) (c_O E _) rfl inlX7 0 (by decide) rfl q23 rfl dX7_count_137 ?_
              refine c_iR hw (run_V (As := []) (rest := []) (np := 0) hf hw (k_X4_alarmsOn l E _ (by decide)   ) ⟨gl_V q140 q141 q142 q22 q143, by decide +kernel⟩ ⟨rfl, rfl, Nat.le_of_ble_eq_true rfl, Nat.le_of_ble_eq_true rfl⟩ (lt_iS (by decide)) (c_iS E _ (by decide)) rfl rfl hl.1 rfl (Nat.le_of_ble_eq_true rfl) dX7_count_140 ⟨Nat.zero_le _, Nat.zero_le _⟩) (fun H locs hw => ?_)
              exact e_i hf hr hlocks hw rfl (congrArg (fun z => (z, μ)) ((if_neg c1).trans ((if_neg c2).trans ((if_neg c3).trans ((if_neg c4).trans ((if_neg c5).trans ((if_pos c6).trans rfl))))))) dX7_count_143
            · skip
              by_cases c7 : a = 4
              · refine lv_tableIn (off := 77) (tgt := 144) hx hb dX7_count_67 (by rw [c7]; decide) (by rw [c7]; decide) (by rw [c7]; rfl) (by decide) ?_
                refine lv_aload_n hx hb dX7_count_144 rfl (lv_at hl 0 rfl) ?_
                refine g_f hw hf (by decide) (c_O E _) rfl inlX7 0 (by decide) rfl q23 rfl dX7_count_145 ?_
                refine c_iR hw (run_V (As := []) (rest := []) (np := 0) hf hw (k_X4_allReadings l E _ (by decide)   ) ⟨gl_V q145 q146 q147 q22 q148, by decide +kernel⟩ ⟨rfl, rfl, Nat.le_of_ble_eq_true rfl, Nat.le_of_ble_eq_true rfl⟩ (lt_iS (by decide)) (c_iS E _ (by decide)) rfl rfl hl.1 rfl (Nat.le_of_ble_eq_true rfl) dX7_count_148 ⟨Nat.zero_le _, Nat.zero_le _⟩) (fun H locs hw => ?_)
                exact e_i hf hr hlocks hw rfl (congrArg (fun z => (z, μ)) ((if_neg c1).trans ((if_neg c2).trans ((if_neg c3).trans ((if_neg c4).trans ((if_neg c5).trans ((if_neg c6).trans ((if_pos c7).trans rfl)))))))) dX7_count_151
              · skip
                by_cases c8 : a = 5
                · refine lv_tableIn (off := 85) (tgt := 152) hx hb dX7_count_67 (by rw [c8]; decide) (by rw [c8]; decide) (by rw [c8]; rfl) (by decide) ?_
                  refine lv_aload_n hx hb dX7_count_152 rfl (lv_at hl 0 rfl) ?_
                  refine g_f hw hf (by decide) (c_O E _) rfl inlX7 0 (by decide) rfl q23 rfl dX7_count_153 ?_
                  refine g_f hw hf (lt_iS (by decide)) (c_iS E _ (by decide)) rfl inlX4 2 (by decide) rfl q110 rfl dX7_count_156 ?_
                  refine lv_iconst (v := (-1)) hx hb dX7_count_159 (by decide) ?_
                  refine lv_icmp_ne (tgt := 168) hx hb dX7_count_160 (by decide) (fun c9 => ?_) (fun c9 => ?_)
                  · refine lv_aload_n hx hb dX7_count_168 rfl (lv_at hl 0 rfl) ?_
                    refine g_f hw hf (by decide) (c_O E _) rfl inlX7 0 (by decide) rfl q23 rfl dX7_count_169 ?_
                    refine g_f hw hf (lt_iS (by decide)) (c_iS E _ (by decide)) rfl inlX4 2 (by decide) rfl q110 rfl dX7_count_172 ?_
                    refine c_iR hw (run_S (As := [.int (μ.1 0 2)]) (rest := []) (np := 1) hf hw (k_X7_toldPlace l E _  (μ.1 0 2)  ) ⟨gl_S q150 q151 q2 q152, by decide +kernel⟩ ⟨rfl, rfl, Nat.le_of_ble_eq_true rfl, Nat.le_of_ble_eq_true rfl⟩ rfl hl.1 rfl (Nat.le_of_ble_eq_true rfl) dX7_count_175 ⟨Nat.zero_le _, Nat.zero_le _⟩) (fun H locs hw => ?_)
                    exact e_i hf hr hlocks hw rfl (congrArg (fun z => (z, μ)) ((if_neg c1).trans ((if_neg c2).trans ((if_neg c3).trans ((if_neg c4).trans ((if_neg c5).trans ((if_neg c6).trans ((if_neg c7).trans ((if_pos c8).trans ((if_neg c9).trans rfl)))))))))) dX7_count_178
                  · refine lv_ldc hx hb hf.2.2.2.1 (hf.2.2.2.2 _ q106) dX7_count_163 ?_
                    refine lv_goto (tgt := 178) hx hb dX7_count_165 (by decide) ?_
                    exact e_i hf hr hlocks hw rfl (congrArg (fun z => (z, μ)) ((if_neg c1).trans ((if_neg c2).trans ((if_neg c3).trans ((if_neg c4).trans ((if_neg c5).trans ((if_neg c6).trans ((if_neg c7).trans ((if_pos c8).trans ((if_pos c9).trans rfl)))))))))) dX7_count_178
                · skip
                  by_cases c10 : a = 6
                  · refine lv_tableIn (off := 112) (tgt := 179) hx hb dX7_count_67 (by rw [c10]; decide) (by rw [c10]; decide) (by rw [c10]; rfl) (by decide) ?_
                    refine lv_aload_n hx hb dX7_count_179 rfl (lv_at hl 0 rfl) ?_
                    refine g_f hw hf (by decide) (c_O E _) rfl inlX7 2 (by decide) rfl q28 rfl dX7_count_180 ?_
                    refine g_f hw hf (by decide) (c_Hi E _) rfl inlX0 0 (by decide) rfl q111 rfl dX7_count_183 ?_
                    exact e_i hf hr hlocks hw rfl (congrArg (fun z => (z, μ)) ((if_neg c1).trans ((if_neg c2).trans ((if_neg c3).trans ((if_neg c4).trans ((if_neg c5).trans ((if_neg c6).trans ((if_neg c7).trans ((if_neg c8).trans ((if_pos c10).trans rfl)))))))))) dX7_count_186
                  · skip
                    by_cases c11 : a = 7
                    · refine lv_tableIn (off := 120) (tgt := 187) hx hb dX7_count_67 (by rw [c11]; decide) (by rw [c11]; decide) (by rw [c11]; rfl) (by decide) ?_
                      refine lv_aload_n hx hb dX7_count_187 rfl (lv_at hl 0 rfl) ?_
                      refine g_f hw hf (by decide) (c_O E _) rfl inlX7 5 (by decide) rfl q40 rfl dX7_count_188 ?_
                      refine g_f hw hf (by decide) (c_Tx E _) rfl inlX6 0 (by decide) rfl q112 rfl dX7_count_191 ?_
                      exact e_i hf hr hlocks hw rfl (congrArg (fun z => (z, μ)) ((if_neg c1).trans ((if_neg c2).trans ((if_neg c3).trans ((if_neg c4).trans ((if_neg c5).trans ((if_neg c6).trans ((if_neg c7).trans ((if_neg c8).trans ((if_neg c10).trans ((if_pos c11).trans rfl))))))))))) dX7_count_194
                    · skip
                      have hsw : a.toInt ≠ 0 ∧ a.toInt ≠ 1 ∧ a.toInt ≠ 2 ∧ a.toInt ≠ 3 ∧ a.toInt ≠ 4 ∧ a.toInt ≠ 5 ∧ a.toInt ≠ 6 ∧ a.toInt ≠ 7 := ⟨ne_toInt c3 (by decide), ne_toInt c4 (by decide), ne_toInt c5 (by decide), ne_toInt c6 (by decide), ne_toInt c7 (by decide), ne_toInt c8 (by decide), ne_toInt c10 (by decide), ne_toInt c11 (by decide)⟩
                      refine lv_tableOut (tgt := 195) hx hb dX7_count_67 (by omega) (by decide) ?_
                      refine lv_ldc hx hb hf.2.2.2.1 (hf.2.2.2.2 _ q113) dX7_count_195 ?_
                      exact e_i hf hr hlocks hw rfl (congrArg (fun z => (z, μ)) ((if_neg c1).trans ((if_neg c2).trans ((if_neg c3).trans ((if_neg c4).trans ((if_neg c5).trans ((if_neg c6).trans ((if_neg c7).trans ((if_neg c8).trans ((if_neg c10).trans ((if_neg c11).trans rfl))))))))))) dX7_count_197
    · replace c2 := (bz_n0 _).mp c2
      refine lv_aload_n hx hb dX7_count_40 rfl (lv_at hl 0 rfl) ?_
      refine g_f hw hf (by decide) (c_O E _) rfl inlX7 0 (by decide) rfl q23 rfl dX7_count_41 ?_
      refine lv_iload_n hx hb dX7_count_44 rfl (lv_at hl 1 rfl) ?_
      refine lv_bipush (v := 10) hx hb dX7_count_45 (by decide) ?_
      refine lv_isub hx hb dX7_count_47 ?_
      refine c_q hw (run_V (As := [.int (a - 10)]) (rest := []) (np := 1) hf hw (k_X4_tableAt l E _ (by decide) (a - 10)  ) ⟨gl_V q121 q122 q123 q22 q124, by decide +kernel⟩ ⟨rfl, rfl, Nat.le_of_ble_eq_true rfl, Nat.le_of_ble_eq_true rfl⟩ (lt_iS (by decide)) (c_iS E _ (by decide)) rfl rfl hl.1 rfl (Nat.le_of_ble_eq_true rfl) dX7_count_48 ⟨Nat.zero_le _, Nat.zero_le _⟩) (fun H locs hw => ?_)
      rcases o12 : sp_X4_tableAt (μ.1 0)  (a - 10) with _ | t13
      · refine W.eq (g2 := F0 m 51 ls [.null]) rfl ?_
        refine lv_astore_nN (lv' := [(2, .null), (0, .ref (E.1 (231))), (1, .int (a))]) hx hb dX7_count_51 rfl hl (by decide) rfl (fun ls hl => ?_)
        refine lv_aload_nN hx hb dX7_count_52 rfl (lv_at hl 0 rfl) ?_
        refine lv_ifnonnullN hx hb dX7_count_53 ?_
        refine lv_ldc hx hb hf.2.2.2.1 (hf.2.2.2.2 _ q106) dX7_count_56 ?_
        refine lv_goto (tgt := 65) hx hb dX7_count_58 (by decide) ?_
        exact e_i hf hr hlocks hw rfl (congrArg (fun z => (z, μ)) ((if_neg c1).trans ((if_pos c2).trans ((oc_none o12).trans rfl)))) dX7_count_65
      · have ht14 : t13 < 3 := (b_X4_tableAt o12)
        refine W.eq (g2 := F0 m 51 ls [.ref (E.1 (iT 0 t13))]) rfl ?_
        refine lv_astore_n (lv' := [(2, .ref (E.1 (iT 0 t13))), (0, .ref (E.1 (231))), (1, .int (a))]) hx hb dX7_count_51 rfl hl (by decide) rfl (fun ls hl => ?_)
        refine lv_aload_n hx hb dX7_count_52 rfl (lv_at hl 0 rfl) ?_
        refine lv_ifnonnull (tgt := 61) hx hb dX7_count_53 (by decide) ?_
        refine lv_aload_n hx hb dX7_count_61 rfl (lv_at hl 0 rfl) ?_
        refine g_f hw hf (lt_iT (by decide) ht14) (c_iT E _ (by decide) ht14) rfl inlX5 0 (by decide) rfl q107 rfl dX7_count_62 ?_
        exact e_i hf hr hlocks hw rfl (congrArg (fun z => (z, μ)) ((if_neg c1).trans ((if_pos c2).trans ((oc_some o12).trans rfl)))) dX7_count_65
  · replace c1 := (bz_n0 _).mp c1
    refine lv_aload_n hx hb dX7_count_14 rfl (lv_at hl 0 rfl) ?_
    refine g_f hw hf (by decide) (c_O E _) rfl inlX7 0 (by decide) rfl q23 rfl dX7_count_15 ?_
    refine lv_iload_n hx hb dX7_count_18 rfl (lv_at hl 1 rfl) ?_
    refine lv_bipush (v := 20) hx hb dX7_count_19 (by decide) ?_
    refine lv_isub hx hb dX7_count_21 ?_
    refine c_iR hw (run_V (As := [.int (a - 20)]) (rest := []) (np := 1) hf hw (k_X4_setting l E _ (by decide) (a - 20)  ) ⟨gl_V q117 q118 q119 q22 q120, by decide +kernel⟩ ⟨rfl, rfl, Nat.le_of_ble_eq_true rfl, Nat.le_of_ble_eq_true rfl⟩ (lt_iS (by decide)) (c_iS E _ (by decide)) rfl rfl hl.1 rfl (Nat.le_of_ble_eq_true rfl) dX7_count_22 ⟨Nat.zero_le _, Nat.zero_le _⟩) (fun H locs hw => ?_)
    exact e_i hf hr hlocks hw rfl (congrArg (fun z => (z, μ)) ((if_pos c1).trans rfl)) dX7_count_25
