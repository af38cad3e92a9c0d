/-! ===== Meter ===== -/
def v_X2_extrapolated   (a0 : Int64) (a1 : Int64) (x : Int64) (y : Int64) : Int64 :=
  if ((y * y) - (x * x) : Int64) = 0 then
    a0
  else
    mxL ((-2000000000) : Int64) (mnL (2000000000 : Int64) ((a0) - (((((a1) - (a0)) * x) * x) / ((y * y) - (x * x)))))
def sp_X2_extrapolated (J : Nat → Nat → Int64)  (x : Int64) (y : Int64) : Int64 :=
  if ((y * y) - (x * x) : Int64) = 0 then
    J 0 6
  else
    mxL ((-2000000000) : Int64) (mnL (2000000000 : Int64) ((J 0 6) - (((((J 1 6) - (J 0 6)) * x) * x) / ((y * y) - (x * x)))))
set_option maxHeartbeats 4000000 in
set_option maxRecDepth 100000 in
theorem k_X2_extrapolated (l : Launch) (E : En) (μ : Mu)  (x : Int64) (y : Int64)  : MtL l yX2_extrapolated cX2_extrapolated 13 ({ frames := 1, cells := 0, slots := 0, locals := 17 }) [.ref (E.1 (224)), .long (x), .long (y)] E μ ((sp_X2_extrapolated μ.2.1 x y), μ) := by
  refine mt_of (by decide +kernel) (Nat.le_of_ble_eq_true rfl) ?_
  intro p e s m args below meth c ls hf hr hlocks hl hw
  have hx := hf.1
  have hb := hf.2.1
  have hl : lv_has ls 13 [(0, .ref (E.1 (224))), (1, .long (x)), (3, .long (y))] := hl
  refine lv_aload_n hx hb dX2_extrapolated_0 rfl (lv_at hl 0 rfl) ?_
  refine g_f hw hf (by decide) (c_Me E _) rfl inlX2 0 (by decide) rfl q84 rfl dX2_extrapolated_1 ?_
  refine g_f hw hf (lt_iM (by decide)) (c_iM E _ (by decide)) rfl inlX1 6 (by decide) rfl q320 rfl dX2_extrapolated_4 ?_
  refine lv_lstore (lv' := [(5, .long (μ.2.1 0 6)), (0, .ref (E.1 (224))), (1, .long (x)), (3, .long (y))]) hx hb dX2_extrapolated_7 hl (by decide) rfl (fun ls hl => ?_)
  refine lv_aload_n hx hb dX2_extrapolated_9 rfl (lv_at hl 1 rfl) ?_
  refine g_f hw hf (by decide) (c_Me E _) rfl inlX2 1 (by decide) rfl q85 rfl dX2_extrapolated_10 ?_
  refine g_f hw hf (lt_iM (by decide)) (c_iM E _ (by decide)) rfl inlX1 6 (by decide) rfl q320 rfl dX2_extrapolated_13 ?_
  refine lv_lstore (lv' := [(7, .long (μ.2.1 1 6)), (5, .long (μ.2.1 0 6)), (0, .ref (E.1 (224))), (1, .long (x)), (3, .long (y))]) hx hb dX2_extrapolated_16 hl (by decide) rfl (fun ls hl => ?_)
  refine lv_lload_n hx hb dX2_extrapolated_18 rfl (lv_at hl 4 rfl) ?_
  refine lv_lload_n hx hb dX2_extrapolated_19 rfl (lv_at hl 4 rfl) ?_
  refine lv_lmul hx hb dX2_extrapolated_20 ?_
  refine lv_lload_n hx hb dX2_extrapolated_21 rfl (lv_at hl 3 rfl) ?_
  refine lv_lload_n hx hb dX2_extrapolated_22 rfl (lv_at hl 3 rfl) ?_
  refine lv_lmul hx hb dX2_extrapolated_23 ?_
  refine lv_lsub hx hb dX2_extrapolated_24 ?_
  refine lv_lstore (lv' := [(9, .long ((y * y) - (x * x))), (7, .long (μ.2.1 1 6)), (5, .long (μ.2.1 0 6)), (0, .ref (E.1 (224))), (1, .long (x)), (3, .long (y))]) hx hb dX2_extrapolated_25 hl (by decide) rfl (fun ls hl => ?_)
  refine lv_lload hx hb dX2_extrapolated_27 (lv_at hl 0 rfl) ?_
  refine lv_lconst (v := 0) hx hb dX2_extrapolated_29 (by decide) ?_
  refine W.lcmp hx hb dX2_extrapolated_30 ?_
  refine lv_if_ne (tgt := 37) hx hb dX2_extrapolated_31 (by decide) (fun c1 => ?_) (fun c1 => ?_)
  · replace c1 := mt (lgc_eq).mpr c1
    refine lv_lload hx hb dX2_extrapolated_37 (lv_at hl 2 rfl) ?_
    refine lv_lload hx hb dX2_extrapolated_39 (lv_at hl 1 rfl) ?_
    refine lv_lload hx hb dX2_extrapolated_41 (lv_at hl 2 rfl) ?_
    refine lv_lsub hx hb dX2_extrapolated_43 ?_
    refine lv_lload_n hx hb dX2_extrapolated_44 rfl (lv_at hl 4 rfl) ?_
    refine lv_lmul hx hb dX2_extrapolated_45 ?_
    refine lv_lload_n hx hb dX2_extrapolated_46 rfl (lv_at hl 4 rfl) ?_
    refine lv_lmul hx hb dX2_extrapolated_47 ?_
    refine lv_lload hx hb dX2_extrapolated_48 (lv_at hl 0 rfl) ?_
    refine lv_ldiv hx hb dX2_extrapolated_50 c1 ?_
    refine lv_lsub hx hb dX2_extrapolated_51 ?_
    refine lv_lstore (lv' := [(11, .long ((μ.2.1 0 6) - (((((μ.2.1 1 6) - (μ.2.1 0 6)) * x) * x) / ((y * y) - (x * x))))), (9, .long ((y * y) - (x * x))), (7, .long (μ.2.1 1 6)), (5, .long (μ.2.1 0 6)), (0, .ref (E.1 (224))), (1, .long (x)), (3, .long (y))]) hx hb dX2_extrapolated_52 hl (by decide) rfl (fun ls hl => ?_)
    refine lv_ldc2 hx hb hf.2.2.2.1 (hf.2.2.2.2 _ q321) dX2_extrapolated_54 ?_
    refine lv_ldc2 hx hb hf.2.2.2.1 (hf.2.2.2.2 _ q322) dX2_extrapolated_57 ?_
    refine lv_lload hx hb dX2_extrapolated_60 (lv_at hl 0 rfl) ?_
    refine va_mmin_long hx hb (hf.2.2.1.trans hl.1.symm) hf.2.2.2.1 (hf.2.2.2.2 _ q323) (hf.2.2.2.2 _ q290) (hf.2.2.2.2 _ q291) (hf.2.2.2.2 _ q292) (Nat.le_of_ble_eq_true rfl) (Nat.le_of_ble_eq_true rfl) (Nat.zero_le _) (Nat.zero_le _) dX2_extrapolated_62 ?_
    refine va_mmax_long hx hb (hf.2.2.1.trans hl.1.symm) hf.2.2.2.1 (hf.2.2.2.2 _ q324) (hf.2.2.2.2 _ q301) (hf.2.2.2.2 _ q291) (hf.2.2.2.2 _ q302) (Nat.le_of_ble_eq_true rfl) (Nat.le_of_ble_eq_true rfl) (Nat.zero_le _) (Nat.zero_le _) dX2_extrapolated_65 ?_
    exact e_l hf hr hlocks hw (congrArg (fun z => (z, μ)) ((if_neg c1).trans rfl)) dX2_extrapolated_68
  · replace c1 := (lgc_eq).mp c1
    refine lv_lload hx hb dX2_extrapolated_34 (lv_at hl 2 rfl) ?_
    exact e_l hf hr hlocks hw (congrArg (fun z => (z, μ)) ((if_pos c1).trans rfl)) dX2_extrapolated_36
theorem n_X2_extrapolated (μ : Mu)  (x : Int64) (y : Int64)  : (sp_X2_extrapolated μ.2.1 x y) = v_X2_extrapolated   (μ.2.1 0 6) (μ.2.1 1 6) x y := by
  rfl
theorem kn_X2_extrapolated (l : Launch) (E : En) (μ : Mu)  (x : Int64) (y : Int64)  : MtL l yX2_extrapolated cX2_extrapolated 13 ({ frames := 1, cells := 0, slots := 0, locals := 17 }) [.ref (E.1 (224)), .long (x), .long (y)] E μ (v_X2_extrapolated   (μ.2.1 0 6) (μ.2.1 1 6) x y, μ) := by
  rw [← n_X2_extrapolated μ x y ]
  exact k_X2_extrapolated l E μ  x y 
def v_X2_readingOf (g : Nat → Int32) (t : Nat) (a0 : Int64) (a : Int64) : Int32 :=
  if (0 : Int64) < a then
    sp_X5_temperatureFor g t (((a0) * 1000000) / a)
  else
    (-2000000004)
def sp_X2_readingOf (g : Nat → Int32) (J : Nat → Nat → Int64) (t : Nat) (a : Int64) : Int32 :=
  if (0 : Int64) < a then
    sp_X5_temperatureFor g t (((J 3 0) * 1000000) / a)
  else
    (-2000000004)
set_option maxHeartbeats 4000000 in
set_option maxRecDepth 100000 in
theorem k_X2_readingOf (l : Launch) (E : En) (μ : Mu) {j : Nat} (hj : j < 6) {t : Nat} (ht : t < 3) (a : Int64)  : MtI l yX2_readingOf cX2_readingOf 4 .int ({ frames := 2, cells := 0, slots := 0, locals := 54 }) [.ref (E.1 (224)), .ref (E.1 (iT j t)), .long (a)] E μ ((sp_X2_readingOf (μ.1 j) μ.2.1 t a), μ) := by
  refine mt_of (by decide +kernel) (Nat.le_of_ble_eq_true rfl) ?_
  intro p e s m args below meth c ls hf hr hlocks hl hw
  have hx := hf.1
  have hb := hf.2.1
  have hl : lv_has ls 4 [(0, .ref (E.1 (224))), (1, .ref (E.1 (iT j t))), (2, .long (a))] := hl
  refine lv_aload_n hx hb dX2_readingOf_0 rfl (lv_at hl 1 rfl) ?_
  refine lv_ifnull hx hb dX2_readingOf_1 ?_
  refine lv_lload_n hx hb dX2_readingOf_4 rfl (lv_at hl 2 rfl) ?_
  refine lv_lconst (v := 0) hx hb dX2_readingOf_5 (by decide) ?_
  refine W.lcmp hx hb dX2_readingOf_6 ?_
  refine lv_if_gt (tgt := 13) hx hb dX2_readingOf_7 (by decide) (fun c1 => ?_) (fun c1 => ?_)
  · replace c1 := (lg_cmp_gt _ _).mp c1
    refine lv_aload_n hx hb dX2_readingOf_13 rfl (lv_at hl 1 rfl) ?_
    refine lv_aload_n hx hb dX2_readingOf_14 rfl (lv_at hl 0 rfl) ?_
    refine g_f hw hf (by decide) (c_Me E _) rfl inlX2 2 (by decide) rfl q254 rfl dX2_readingOf_15 ?_
    refine lv_ldc2 hx hb hf.2.2.2.1 (hf.2.2.2.2 _ q331) dX2_readingOf_18 ?_
    refine lv_lmul hx hb dX2_readingOf_21 ?_
    refine lv_lload_n hx hb dX2_readingOf_22 rfl (lv_at hl 2 rfl) ?_
    refine lv_ldiv hx hb dX2_readingOf_23 (nz_of_pos2L c1) ?_
    refine c_iR hw (run_V (As := [.long (((μ.2.1 3 0) * 1000000) / a)]) (rest := []) (np := 1) hf hw (k_X5_temperatureFor l E _ hj ht (((μ.2.1 3 0) * 1000000) / a)  ) ⟨gl_V q332 q193 q194 q54 q195, by decide +kernel⟩ ⟨rfl, rfl, Nat.le_of_ble_eq_true rfl, Nat.le_of_ble_eq_true rfl⟩ (lt_iT hj ht) (c_iT E _ hj ht) rfl rfl hl.1 rfl (Nat.le_of_ble_eq_true rfl) dX2_readingOf_24 ⟨Nat.zero_le _, Nat.zero_le _⟩) (fun H locs hw => ?_)
    exact e_i hf hr hlocks hw rfl (congrArg (fun z => (z, μ)) ((if_pos c1).trans rfl)) dX2_readingOf_27
  · replace c1 := mt (lg_cmp_gt _ _).mpr c1
    refine lv_ldc hx hb hf.2.2.2.1 (hf.2.2.2.2 _ q330) dX2_readingOf_10 ?_
    exact e_i hf hr hlocks hw rfl (congrArg (fun z => (z, μ)) ((if_neg c1).trans rfl)) dX2_readingOf_12
theorem n_X2_readingOf (μ : Mu) (j : Nat) (t : Nat) (a : Int64)  : (sp_X2_readingOf (μ.1 j) μ.2.1 t a) = v_X2_readingOf (μ.1 j) t (μ.2.1 3 0) a := by
  rfl
theorem kn_X2_readingOf (l : Launch) (E : En) (μ : Mu) {j : Nat} (hj : j < 6) {t : Nat} (ht : t < 3) (a : Int64)  : MtI l yX2_readingOf cX2_readingOf 4 .int ({ frames := 2, cells := 0, slots := 0, locals := 54 }) [.ref (E.1 (224)), .ref (E.1 (iT j t)), .long (a)] E μ (v_X2_readingOf (μ.1 j) t (μ.2.1 3 0) a, μ) := by
  rw [← n_X2_readingOf μ j t a ]
  exact k_X2_readingOf l E μ hj ht a 
def v_X2_readingOf_n    (a : Int64) : Int32 :=
  (-2000000004)
def sp_X2_readingOf_n   (a : Int64) : Int32 :=
  (-2000000004)
set_option maxHeartbeats 4000000 in
set_option maxRecDepth 100000 in
theorem k_X2_readingOf_n (l : Launch) (E : En) (μ : Mu)  (a : Int64)  : MtI l yX2_readingOf cX2_readingOf 4 .int ({ frames := 0, cells := 0, slots := 0, locals := 0 }) [.ref (E.1 (224)), .null, .long (a)] E μ ((sp_X2_readingOf_n  a), μ) := by
  refine mt_of (by decide +kernel) (Nat.le_of_ble_eq_true rfl) ?_
  intro p e s m args below meth c ls hf hr hlocks hl hw
  have hx := hf.1
  have hb := hf.2.1
  have hl : lv_has ls 4 [(0, .ref (E.1 (224))), (1, .null), (2, .long (a))] := hl
  refine lv_aload_nN hx hb dX2_readingOf_0 rfl (lv_at hl 1 rfl) ?_
  refine lv_ifnullN (tgt := 10) hx hb dX2_readingOf_1 (by decide) ?_
  refine lv_ldc hx hb hf.2.2.2.1 (hf.2.2.2.2 _ q330) dX2_readingOf_10 ?_
  exact e_i hf hr hlocks hw rfl (congrArg (fun z => (z, μ)) rfl) dX2_readingOf_12
theorem n_X2_readingOf_n (μ : Mu)  (a : Int64)  : (sp_X2_readingOf_n  a) = v_X2_readingOf_n    a := by
  rfl
theorem kn_X2_readingOf_n (l : Launch) (E : En) (μ : Mu)  (a : Int64)  : MtI l yX2_readingOf cX2_readingOf 4 .int ({ frames := 0, cells := 0, slots := 0, locals := 0 }) [.ref (E.1 (224)), .null, .long (a)] E μ (v_X2_readingOf_n    a, μ) := by
  rw [← n_X2_readingOf_n μ a ]
  exact k_X2_readingOf_n l E μ  a 
def v_X2_diagnosisOf (g : Nat → Int32) (n : Nat) (a0 : Int64) (a1 : Int64) (a2 : Int64) (a3 : Int64) (a4 : Int64) (a5 : Int64) (a6 : Int64) (a7 : Int32)  : Int32 :=
  if ¬ (g (sF n 6)) = -1 then
    if (g (sF n 5) : Int32) = 0 then
      if (((g (sF n 3)) / 10).toInt64 : Int64) ≤ a0 then
        if (a1) = 4 * (a2) ∨ (a1) = -(4 * (a2)) ∨ (a3) = 4 * (a2) ∨ (a3) = -(4 * (a2)) then
          4
        else
          if (a4) = 4 * (a5) ∨ (a4) = -(4 * (a5)) ∨ (a6) = 4 * (a5) ∨ (a6) = -(4 * (a5)) then
            4
          else
            if (g (sF n 1)) = 3 then
              if (abI ((sp_X3_leadOf g n (0 : Int32)) - (sp_X3_leadOf g n (1 : Int32))) : Int32) ≤ sp_X4_setting g  (4 : Int32) then
                if (abI (sp_X3_strainOf g n (1 : Int32)) : Int32) ≤ sp_X4_setting g  (5 : Int32) then
                  if (a7 : Int32) = (-2000000004) then
                    7
                  else
                    0
                else
                  6
              else
                5
            else
              if (abI (sp_X3_strainOf g n (1 : Int32)) : Int32) ≤ sp_X4_setting g  (5 : Int32) then
                if (a7 : Int32) = (-2000000004) then
                  7
                else
                  0
              else
                6
      else
        3
    else
      2
  else
    1
def sp_X2_diagnosisOf (M : Nat → Nat → Int32) (J : Nat → Nat → Int64) (j : Nat) (n : Nat)  : Int32 :=
  if ¬ (M j (sF n 6)) = -1 then
    if (M j (sF n 5) : Int32) = 0 then
      if (((M j (sF n 3)) / 10).toInt64 : Int64) ≤ J 3 0 then
        if (J 0 1) = 4 * (J 0 9) ∨ (J 0 1) = -(4 * (J 0 9)) ∨ (J 0 2) = 4 * (J 0 9) ∨ (J 0 2) = -(4 * (J 0 9)) then
          4
        else
          if (J 1 1) = 4 * (J 1 9) ∨ (J 1 1) = -(4 * (J 1 9)) ∨ (J 1 2) = 4 * (J 1 9) ∨ (J 1 2) = -(4 * (J 1 9)) then
            4
          else
            if (M j (sF n 1)) = 3 then
              if (abI ((sp_X3_leadOf (M j) n (0 : Int32)) - (sp_X3_leadOf (M j) n (1 : Int32))) : Int32) ≤ sp_X4_setting (M j)  (4 : Int32) then
                if (abI (sp_X3_strainOf (M j) n (1 : Int32)) : Int32) ≤ sp_X4_setting (M j)  (5 : Int32) then
                  if (M 6 1 : Int32) = (-2000000004) then
                    7
                  else
                    0
                else
                  6
              else
                5
            else
              if (abI (sp_X3_strainOf (M j) n (1 : Int32)) : Int32) ≤ sp_X4_setting (M j)  (5 : Int32) then
                if (M 6 1 : Int32) = (-2000000004) then
                  7
                else
                  0
              else
                6
      else
        3
    else
      2
  else
    1
set_option maxHeartbeats 4000000 in
set_option maxRecDepth 100000 in
theorem k_X2_diagnosisOf (l : Launch) (E : En) (μ : Mu) {j : Nat} (hj : j < 6) {n : Nat} (hn : n < 6)   : MtI l yX2_diagnosisOf cX2_diagnosisOf 4 .int ({ frames := 2, cells := 0, slots := 0, locals := 40 }) [.ref (E.1 (224)), .ref (E.1 (iS j)), .ref (E.1 (iN j n))] E μ ((sp_X2_diagnosisOf μ.1 μ.2.1 j n), μ) := by
  refine mt_of (by decide +kernel) (Nat.le_of_ble_eq_true rfl) ?_
  intro p e s m args below meth c ls hf hr hlocks hl hw
  have hx := hf.1
  have hb := hf.2.1
  have hl : lv_has ls 4 [(0, .ref (E.1 (224))), (1, .ref (E.1 (iS j))), (2, .ref (E.1 (iN j n)))] := hl
  refine lv_aload_n hx hb dX2_diagnosisOf_0 rfl (lv_at hl 2 rfl) ?_
  refine c_iR hw (run_V (As := []) (rest := []) (np := 0) hf hw (kn_X3_isPlugged l E _ hj hn   ) ⟨gl_V q341 q238 q239 q56 q240, by decide +kernel⟩ ⟨rfl, rfl, Nat.le_of_ble_eq_true rfl, Nat.le_of_ble_eq_true rfl⟩ (lt_iN hj hn) (c_iN E _ hj hn) rfl rfl hl.1 rfl (Nat.le_of_ble_eq_true rfl) dX2_diagnosisOf_1 ⟨Nat.zero_le _, Nat.zero_le _⟩) (fun H locs hw => ?_)
  refine lv_if_ne (tgt := 9) hx hb dX2_diagnosisOf_4 (by decide) (fun c1 => ?_) (fun c1 => ?_)
  · replace c1 := (bz_n0 _).mp c1
    refine lv_aload_n hx hb dX2_diagnosisOf_9 rfl (lv_at hl 2 rfl) ?_
    refine g_f hw hf (lt_iN hj hn) (c_iN E _ hj hn) rfl inlX3 5 (by decide) rfl q337 rfl dX2_diagnosisOf_10 ?_
    refine lv_if_eq (tgt := 18) hx hb dX2_diagnosisOf_13 (by decide) (fun c2 => ?_) (fun c2 => ?_)
    · refine lv_aload_n hx hb dX2_diagnosisOf_18 rfl (lv_at hl 0 rfl) ?_
      refine g_f hw hf (by decide) (c_Me E _) rfl inlX2 2 (by decide) rfl q254 rfl dX2_diagnosisOf_19 ?_
      refine lv_aload_n hx hb dX2_diagnosisOf_22 rfl (lv_at hl 2 rfl) ?_
      refine g_f hw hf (lt_iN hj hn) (c_iN E _ hj hn) rfl inlX3 3 (by decide) rfl q256 rfl dX2_diagnosisOf_23 ?_
      refine lv_bipush (v := 10) hx hb dX2_diagnosisOf_26 (by decide) ?_
      refine lv_idiv hx hb dX2_diagnosisOf_28 (by decide) ?_
      refine lv_i2l hx hb dX2_diagnosisOf_29 rfl ?_
      refine W.lcmp hx hb dX2_diagnosisOf_30 ?_
      refine lv_if_ge (tgt := 36) hx hb dX2_diagnosisOf_31 (by decide) (fun c3 => ?_) (fun c3 => ?_)
      · replace c3 := (lg_cmp_ge _ _).mp c3
        refine lv_aload_n hx hb dX2_diagnosisOf_36 rfl (lv_at hl 0 rfl) ?_
        refine g_f hw hf (by decide) (c_Me E _) rfl inlX2 0 (by decide) rfl q84 rfl dX2_diagnosisOf_37 ?_
        refine c_iR hw (run_V (As := []) (rest := []) (np := 0) hf hw (kn_X1_isAtBound l E _ (by decide)   ) ⟨gl_V q342 q343 q344 q35 q345, by decide +kernel⟩ ⟨rfl, rfl, Nat.le_of_ble_eq_true rfl, Nat.le_of_ble_eq_true rfl⟩ (lt_iM (by decide)) (c_iM E _ (by decide)) rfl rfl hl.1 rfl (Nat.le_of_ble_eq_true rfl) dX2_diagnosisOf_40 ⟨Nat.zero_le _, Nat.zero_le _⟩) (fun H locs hw => ?_)
        refine lv_if_ne (tgt := 56) hx hb dX2_diagnosisOf_43 (by decide) (fun c4 => ?_) (fun c4 => ?_)
        · replace c4 := (bz_n0 _).mp c4
          refine lv_iconst (v := 4) hx hb dX2_diagnosisOf_56 (by decide) ?_
          exact e_i hf hr hlocks hw rfl (congrArg (fun z => (z, μ)) ((if_pos c1).trans ((if_pos c2).trans ((if_pos c3).trans ((if_pos c4).trans rfl))))) dX2_diagnosisOf_57
        · replace c4 := (bz_0 _).mp c4
          refine lv_aload_n hx hb dX2_diagnosisOf_46 rfl (lv_at hl 0 rfl) ?_
          refine g_f hw hf (by decide) (c_Me E _) rfl inlX2 1 (by decide) rfl q85 rfl dX2_diagnosisOf_47 ?_
          refine c_iR hw (run_V (As := []) (rest := []) (np := 0) hf hw (kn_X1_isAtBound l E _ (by decide)   ) ⟨gl_V q342 q343 q344 q35 q345, by decide +kernel⟩ ⟨rfl, rfl, Nat.le_of_ble_eq_true rfl, Nat.le_of_ble_eq_true rfl⟩ (lt_iM (by decide)) (c_iM E _ (by decide)) rfl rfl hl.1 rfl (Nat.le_of_ble_eq_true rfl) dX2_diagnosisOf_50 ⟨Nat.zero_le _, Nat.zero_le _⟩) (fun H locs hw => ?_)
          refine lv_if_eq (tgt := 58) hx hb dX2_diagnosisOf_53 (by decide) (fun c5 => ?_) (fun c5 => ?_)
          · replace c5 := (bz_0 _).mp c5
            refine lv_aload_n hx hb dX2_diagnosisOf_58 rfl (lv_at hl 2 rfl) ?_
            refine lv_iconst (v := 0) hx hb dX2_diagnosisOf_59 (by decide) ?_
            refine c_iR hw (run_V (As := [.int 0]) (rest := []) (np := 1) hf hw (k_X3_leadOf l E _ hj hn (0 : Int32)  ) ⟨gl_V q346 q230 q231 q56 q232, by decide +kernel⟩ ⟨rfl, rfl, Nat.le_of_ble_eq_true rfl, Nat.le_of_ble_eq_true rfl⟩ (lt_iN hj hn) (c_iN E _ hj hn) rfl rfl hl.1 rfl (Nat.le_of_ble_eq_true rfl) dX2_diagnosisOf_60 ⟨Nat.zero_le _, Nat.zero_le _⟩) (fun H locs hw => ?_)
            refine lv_aload_n hx hb dX2_diagnosisOf_63 rfl (lv_at hl 2 rfl) ?_
            refine lv_iconst (v := 1) hx hb dX2_diagnosisOf_64 (by decide) ?_
            refine c_iR hw (run_V (As := [.int 1]) (rest := [.int (sp_X3_leadOf (μ.1 j) n (0 : Int32))]) (np := 1) hf hw (k_X3_leadOf l E _ hj hn (1 : Int32)  ) ⟨gl_V q346 q230 q231 q56 q232, by decide +kernel⟩ ⟨rfl, rfl, Nat.le_of_ble_eq_true rfl, Nat.le_of_ble_eq_true rfl⟩ (lt_iN hj hn) (c_iN E _ hj hn) rfl rfl hl.1 rfl (Nat.le_of_ble_eq_true rfl) dX2_diagnosisOf_65 ⟨Nat.zero_le _, Nat.zero_le _⟩) (fun H locs hw => ?_)
            refine lv_isub hx hb dX2_diagnosisOf_68 ?_
            refine va_mabs hx hb (hf.2.2.1.trans hl.1.symm) hf.2.2.2.1 (hf.2.2.2.2 _ q338) (hf.2.2.2.2 _ q339) (hf.2.2.2.2 _ q291) (hf.2.2.2.2 _ q340) (Nat.le_of_ble_eq_true rfl) (Nat.le_of_ble_eq_true rfl) (Nat.zero_le _) (Nat.zero_le _) dX2_diagnosisOf_69 ?_
            refine lv_istore_n (lv' := [(3, .int (abI ((sp_X3_leadOf (μ.1 j) n (0 : Int32)) - (sp_X3_leadOf (μ.1 j) n (1 : Int32))))), (0, .ref (E.1 (224))), (1, .ref (E.1 (iS j))), (2, .ref (E.1 (iN j n)))]) hx hb dX2_diagnosisOf_72 rfl hl (by decide) rfl (fun ls hl => ?_)
            refine lv_aload_n hx hb dX2_diagnosisOf_73 rfl (lv_at hl 3 rfl) ?_
            refine c_iR hw (run_V (As := []) (rest := []) (np := 0) hf hw (kn_X3_isCompensated l E _ hj hn   ) ⟨gl_V q347 q313 q314 q56 q315, by decide +kernel⟩ ⟨rfl, rfl, Nat.le_of_ble_eq_true rfl, Nat.le_of_ble_eq_true rfl⟩ (lt_iN hj hn) (c_iN E _ hj hn) rfl rfl hl.1 rfl (Nat.le_of_ble_eq_true rfl) dX2_diagnosisOf_74 ⟨Nat.zero_le _, Nat.zero_le _⟩) (fun H locs hw => ?_)
            refine lv_if_eq (tgt := 91) hx hb dX2_diagnosisOf_77 (by decide) (fun c6 => ?_) (fun c6 => ?_)
            · replace c6 := (bz_0 _).mp c6
              refine lv_aload_n hx hb dX2_diagnosisOf_91 rfl (lv_at hl 3 rfl) ?_
              refine lv_iconst (v := 1) hx hb dX2_diagnosisOf_92 (by decide) ?_
              refine c_iR hw (run_V (As := [.int 1]) (rest := []) (np := 1) hf hw (k_X3_strainOf l E _ hj hn (1 : Int32)  ) ⟨gl_V q348 q234 q235 q56 q236, by decide +kernel⟩ ⟨rfl, rfl, Nat.le_of_ble_eq_true rfl, Nat.le_of_ble_eq_true rfl⟩ (lt_iN hj hn) (c_iN E _ hj hn) rfl rfl hl.1 rfl (Nat.le_of_ble_eq_true rfl) dX2_diagnosisOf_93 ⟨Nat.zero_le _, Nat.zero_le _⟩) (fun H locs hw => ?_)
              refine va_mabs hx hb (hf.2.2.1.trans hl.1.symm) hf.2.2.2.1 (hf.2.2.2.2 _ q338) (hf.2.2.2.2 _ q339) (hf.2.2.2.2 _ q291) (hf.2.2.2.2 _ q340) (Nat.le_of_ble_eq_true rfl) (Nat.le_of_ble_eq_true rfl) (Nat.zero_le _) (Nat.zero_le _) dX2_diagnosisOf_96 ?_
              refine lv_aload_n hx hb dX2_diagnosisOf_99 rfl (lv_at hl 2 rfl) ?_
              refine lv_iconst (v := 5) hx hb dX2_diagnosisOf_100 (by decide) ?_
              refine c_iR hw (run_V (As := [.int 5]) (rest := [.int (abI (sp_X3_strainOf (μ.1 j) n (1 : Int32)))]) (np := 1) hf hw (k_X4_setting l E _ hj (5 : Int32)  ) ⟨gl_V q259 q118 q119 q22 q120, by decide +kernel⟩ ⟨rfl, rfl, Nat.le_of_ble_eq_true rfl, Nat.le_of_ble_eq_true rfl⟩ (lt_iS hj) (c_iS E _ hj) rfl rfl hl.1 rfl (Nat.le_of_ble_eq_true rfl) dX2_diagnosisOf_101 ⟨Nat.zero_le _, Nat.zero_le _⟩) (fun H locs hw => ?_)
              refine lv_icmp_le (tgt := 110) hx hb dX2_diagnosisOf_104 (by decide) (fun c7 => ?_) (fun c7 => ?_)
              · refine lv_aload_n hx hb dX2_diagnosisOf_110 rfl (lv_at hl 1 rfl) ?_
                refine g_f hw hf (by decide) (c_Me E _) rfl inlX2 3 (by decide) rfl q257 rfl dX2_diagnosisOf_111 ?_
                refine lv_ldc hx hb hf.2.2.2.1 (hf.2.2.2.2 _ q330) dX2_diagnosisOf_114 ?_
                refine lv_icmp_ne (tgt := 124) hx hb dX2_diagnosisOf_116 (by decide) (fun c8 => ?_) (fun c8 => ?_)
                · refine lv_iconst (v := 0) hx hb dX2_diagnosisOf_124 (by decide) ?_
                  exact e_i hf hr hlocks hw rfl (congrArg (fun z => (z, μ)) ((if_pos c1).trans ((if_pos c2).trans ((if_pos c3).trans ((if_neg c4).trans ((if_neg c5).trans ((if_neg c6).trans ((if_pos c7).trans ((if_neg c8).trans rfl))))))))) dX2_diagnosisOf_125
                · refine lv_bipush (v := 7) hx hb dX2_diagnosisOf_119 (by decide) ?_
                  refine lv_goto (tgt := 125) hx hb dX2_diagnosisOf_121 (by decide) ?_
                  exact e_i hf hr hlocks hw rfl (congrArg (fun z => (z, μ)) ((if_pos c1).trans ((if_pos c2).trans ((if_pos c3).trans ((if_neg c4).trans ((if_neg c5).trans ((if_neg c6).trans ((if_pos c7).trans ((if_pos c8).trans rfl))))))))) dX2_diagnosisOf_125
              · refine lv_bipush (v := 6) hx hb dX2_diagnosisOf_107 (by decide) ?_
                exact e_i hf hr hlocks hw rfl (congrArg (fun z => (z, μ)) ((if_pos c1).trans ((if_pos c2).trans ((if_pos c3).trans ((if_neg c4).trans ((if_neg c5).trans ((if_neg c6).trans ((if_neg c7).trans rfl)))))))) dX2_diagnosisOf_109
            · replace c6 := (bz_n0 _).mp c6
              refine lv_iload_n hx hb dX2_diagnosisOf_80 rfl (lv_at hl 0 rfl) ?_
              refine lv_aload_n hx hb dX2_diagnosisOf_81 rfl (lv_at hl 2 rfl) ?_
              refine lv_iconst (v := 4) hx hb dX2_diagnosisOf_82 (by decide) ?_
              refine c_iR hw (run_V (As := [.int 4]) (rest := [.int (abI ((sp_X3_leadOf (μ.1 j) n (0 : Int32)) - (sp_X3_leadOf (μ.1 j) n (1 : Int32))))]) (np := 1) hf hw (k_X4_setting l E _ hj (4 : Int32)  ) ⟨gl_V q259 q118 q119 q22 q120, by decide +kernel⟩ ⟨rfl, rfl, Nat.le_of_ble_eq_true rfl, Nat.le_of_ble_eq_true rfl⟩ (lt_iS hj) (c_iS E _ hj) rfl rfl hl.1 rfl (Nat.le_of_ble_eq_true rfl) dX2_diagnosisOf_83 ⟨Nat.zero_le _, Nat.zero_le _⟩) (fun H locs hw => ?_)
              refine lv_icmp_le (tgt := 91) hx hb dX2_diagnosisOf_86 (by decide) (fun c9 => ?_) (fun c9 => ?_)
              · refine lv_aload_n hx hb dX2_diagnosisOf_91 rfl (lv_at hl 3 rfl) ?_
                refine lv_iconst (v := 1) hx hb dX2_diagnosisOf_92 (by decide) ?_
                refine c_iR hw (run_V (As := [.int 1]) (rest := []) (np := 1) hf hw (k_X3_strainOf l E _ hj hn (1 : Int32)  ) ⟨gl_V q348 q234 q235 q56 q236, by decide +kernel⟩ ⟨rfl, rfl, Nat.le_of_ble_eq_true rfl, Nat.le_of_ble_eq_true rfl⟩ (lt_iN hj hn) (c_iN E _ hj hn) rfl rfl hl.1 rfl (Nat.le_of_ble_eq_true rfl) dX2_diagnosisOf_93 ⟨Nat.zero_le _, Nat.zero_le _⟩) (fun H locs hw => ?_)
                refine va_mabs hx hb (hf.2.2.1.trans hl.1.symm) hf.2.2.2.1 (hf.2.2.2.2 _ q338) (hf.2.2.2.2 _ q339) (hf.2.2.2.2 _ q291) (hf.2.2.2.2 _ q340) (Nat.le_of_ble_eq_true rfl) (Nat.le_of_ble_eq_true rfl) (Nat.zero_le _) (Nat.zero_le _) dX2_diagnosisOf_96 ?_
                refine lv_aload_n hx hb dX2_diagnosisOf_99 rfl (lv_at hl 2 rfl) ?_
                refine lv_iconst (v := 5) hx hb dX2_diagnosisOf_100 (by decide) ?_
                refine c_iR hw (run_V (As := [.int 5]) (rest := [.int (abI (sp_X3_strainOf (μ.1 j) n (1 : Int32)))]) (np := 1) hf hw (k_X4_setting l E _ hj (5 : Int32)  ) ⟨gl_V q259 q118 q119 q22 q120, by decide +kernel⟩ ⟨rfl, rfl, Nat.le_of_ble_eq_true rfl, Nat.le_of_ble_eq_true rfl⟩ (lt_iS hj) (c_iS E _ hj) rfl rfl hl.1 rfl (Nat.le_of_ble_eq_true rfl) dX2_diagnosisOf_101 ⟨Nat.zero_le _, Nat.zero_le _⟩) (fun H locs hw => ?_)
                refine lv_icmp_le (tgt := 110) hx hb dX2_diagnosisOf_104 (by decide) (fun c10 => ?_) (fun c10 => ?_)
                · refine lv_aload_n hx hb dX2_diagnosisOf_110 rfl (lv_at hl 1 rfl) ?_
                  refine g_f hw hf (by decide) (c_Me E _) rfl inlX2 3 (by decide) rfl q257 rfl dX2_diagnosisOf_111 ?_
                  refine lv_ldc hx hb hf.2.2.2.1 (hf.2.2.2.2 _ q330) dX2_diagnosisOf_114 ?_
                  refine lv_icmp_ne (tgt := 124) hx hb dX2_diagnosisOf_116 (by decide) (fun c11 => ?_) (fun c11 => ?_)
                  · refine lv_iconst (v := 0) hx hb dX2_diagnosisOf_124 (by decide) ?_
                    exact e_i hf hr hlocks hw rfl (congrArg (fun z => (z, μ)) ((if_pos c1).trans ((if_pos c2).trans ((if_pos c3).trans ((if_neg c4).trans ((if_neg c5).trans ((if_pos c6).trans ((if_pos c9).trans ((if_pos c10).trans ((if_neg c11).trans rfl)))))))))) dX2_diagnosisOf_125
                  · refine lv_bipush (v := 7) hx hb dX2_diagnosisOf_119 (by decide) ?_
                    refine lv_goto (tgt := 125) hx hb dX2_diagnosisOf_121 (by decide) ?_
                    exact e_i hf hr hlocks hw rfl (congrArg (fun z => (z, μ)) ((if_pos c1).trans ((if_pos c2).trans ((if_pos c3).trans ((if_neg c4).trans ((if_neg c5).trans ((if_pos c6).trans ((if_pos c9).trans ((if_pos c10).trans ((if_pos c11).trans rfl)))))))))) dX2_diagnosisOf_125
                · refine lv_bipush (v := 6) hx hb dX2_diagnosisOf_107 (by decide) ?_
                  exact e_i hf hr hlocks hw rfl (congrArg (fun z => (z, μ)) ((if_pos c1).trans ((if_pos c2).trans ((if_pos c3).trans ((if_neg c4).trans ((if_neg c5).trans ((if_pos c6).trans ((if_pos c9).trans ((if_neg c10).trans rfl))))))))) dX2_diagnosisOf_109
              · refine lv_iconst (v := 5) hx hb dX2_diagnosisOf_89 (by decide) ?_
                exact e_i hf hr hlocks hw rfl (congrArg (fun z => (z, μ)) ((if_pos c1).trans ((if_pos c2).trans ((if_pos c3).trans ((if_neg c4).trans ((if_neg c5).trans ((if_pos c6).trans ((if_neg c9).trans rfl)))))))) dX2_diagnosisOf_90
          · replace c5 := (bz_n0 _).mp c5
            refine lv_iconst (v := 4) hx hb dX2_diagnosisOf_56 (by decide) ?_
            exact e_i hf hr hlocks hw rfl (congrArg (fun z => (z, μ)) ((if_pos c1).trans ((if_pos c2).trans ((if_pos c3).trans ((if_neg c4).trans ((if_pos c5).trans rfl)))))) dX2_diagnosisOf_57
      · replace c3 := mt (lg_cmp_ge _ _).mpr c3
        refine lv_iconst (v := 3) hx hb dX2_diagnosisOf_34 (by decide) ?_
        exact e_i hf hr hlocks hw rfl (congrArg (fun z => (z, μ)) ((if_pos c1).trans ((if_pos c2).trans ((if_neg c3).trans rfl)))) dX2_diagnosisOf_35
    · refine lv_iconst (v := 2) hx hb dX2_diagnosisOf_16 (by decide) ?_
      exact e_i hf hr hlocks hw rfl (congrArg (fun z => (z, μ)) ((if_pos c1).trans ((if_neg c2).trans rfl))) dX2_diagnosisOf_17
  · replace c1 := (bz_0 _).mp c1
    refine lv_iconst (v := 1) hx hb dX2_diagnosisOf_7 (by decide) ?_
    exact e_i hf hr hlocks hw rfl (congrArg (fun z => (z, μ)) ((if_neg c1).trans rfl)) dX2_diagnosisOf_8
theorem n_X2_diagnosisOf (μ : Mu) (j : Nat) (n : Nat)   : (sp_X2_diagnosisOf μ.1 μ.2.1 j n) = v_X2_diagnosisOf (μ.1 j) n (μ.2.1 3 0) (μ.2.1 0 1) (μ.2.1 0 9) (μ.2.1 0 2) (μ.2.1 1 1) (μ.2.1 1 9) (μ.2.1 1 2) (μ.1 6 1)  := by
  rfl
theorem kn_X2_diagnosisOf (l : Launch) (E : En) (μ : Mu) {j : Nat} (hj : j < 6) {n : Nat} (hn : n < 6)   : MtI l yX2_diagnosisOf cX2_diagnosisOf 4 .int ({ frames := 2, cells := 0, slots := 0, locals := 40 }) [.ref (E.1 (224)), .ref (E.1 (iS j)), .ref (E.1 (iN j n))] E μ (v_X2_diagnosisOf (μ.1 j) n (μ.2.1 3 0) (μ.2.1 0 1) (μ.2.1 0 9) (μ.2.1 0 2) (μ.2.1 1 1) (μ.2.1 1 9) (μ.2.1 1 2) (μ.1 6 1) , μ) := by
  rw [← n_X2_diagnosisOf μ j n ]
  exact k_X2_diagnosisOf l E μ hj hn  
/-- the current, the second one; the resistance without power, the reading, the diagnosis -/
def cur1 (g : Nat → Int32) : Int32 := sp_X4_setting g (1 : Int32)
def cur2 (g : Nat → Int32) : Int32 := sp_X4_setting g (2 : Int32)
def wop (g : Nat → Int32) (n : Nat) : Int64 := v_X2_extrapolated (cps g n (cur1 g).toInt64) (cps g n (cur2 g).toInt64) (cur1 g).toInt64 (cur2 g).toInt64
def rdg (g : Nat → Int32) (n : Nat) : Int32 := oc (sp_X4_tableAt g (g (sF n 0))) (-2000000004) (fun t => v_X2_readingOf g t (wop g n) (g (sF n 3)).toInt64)
def dgn (g : Nat → Int32) (n : Nat) : Int32 := v_X2_diagnosisOf g n (wop g n) (one g n (cur1 g).toInt64) (uni g) (oth g n (cur1 g).toInt64) (one g n (cur2 g).toInt64) (uni g) (oth g n (cur2 g).toInt64) (rdg g n)
def msr (μ : Mu) (j n : Nat) : Mu := pM (pM (pJ (tkJ (tkJ μ 0 j n (cur1 (μ.1 j))) 1 j n (cur2 (μ.1 j))) 3 0 (wop (μ.1 j) n)) 6 1 (rdg (μ.1 j) n)) 6 2 (dgn (μ.1 j) n)
def sp_X2_measure (μ : Mu) (j : Nat) (n : Nat)  : Mu :=
  oc (sp_X4_tableAt (μ.1 j)  (μ.1 j (sF n 0))) (
    pM (pM (pJ (tkJ (tkJ μ 0 j n (sp_X4_setting (μ.1 j)  (1 : Int32))) 1 j n (sp_X4_setting (μ.1 j)  (2 : Int32))) 3 0 (v_X2_extrapolated   (cps (μ.1 j) n (sp_X4_setting (μ.1 j)  (1 : Int32)).toInt64) (cps (μ.1 j) n (sp_X4_setting (μ.1 j)  (2 : Int32)).toInt64) ((sp_X4_setting (μ.1 j)  (1 : Int32)).toInt64) ((sp_X4_setting (μ.1 j)  (2 : Int32)).toInt64))) 6 1 (sp_X2_readingOf_n   ((μ.1 j (sF n 3)).toInt64))) 6 2 (v_X2_diagnosisOf (μ.1 j) n (v_X2_extrapolated   (cps (μ.1 j) n (sp_X4_setting (μ.1 j)  (1 : Int32)).toInt64) (cps (μ.1 j) n (sp_X4_setting (μ.1 j)  (2 : Int32)).toInt64) ((sp_X4_setting (μ.1 j)  (1 : Int32)).toInt64) ((sp_X4_setting (μ.1 j)  (2 : Int32)).toInt64)) (one (μ.1 j) n (sp_X4_setting (μ.1 j)  (1 : Int32)).toInt64) (uni (μ.1 j)) (oth (μ.1 j) n (sp_X4_setting (μ.1 j)  (1 : Int32)).toInt64) (one (μ.1 j) n (sp_X4_setting (μ.1 j)  (2 : Int32)).toInt64) (uni (μ.1 j)) (oth (μ.1 j) n (sp_X4_setting (μ.1 j)  (2 : Int32)).toInt64) (sp_X2_readingOf_n   ((μ.1 j (sF n 3)).toInt64)) )) (fun t2 =>
    pM (pM (pJ (tkJ (tkJ μ 0 j n (sp_X4_setting (μ.1 j)  (1 : Int32))) 1 j n (sp_X4_setting (μ.1 j)  (2 : Int32))) 3 0 (v_X2_extrapolated   (cps (μ.1 j) n (sp_X4_setting (μ.1 j)  (1 : Int32)).toInt64) (cps (μ.1 j) n (sp_X4_setting (μ.1 j)  (2 : Int32)).toInt64) ((sp_X4_setting (μ.1 j)  (1 : Int32)).toInt64) ((sp_X4_setting (μ.1 j)  (2 : Int32)).toInt64))) 6 1 (v_X2_readingOf (μ.1 j) t2 (v_X2_extrapolated   (cps (μ.1 j) n (sp_X4_setting (μ.1 j)  (1 : Int32)).toInt64) (cps (μ.1 j) n (sp_X4_setting (μ.1 j)  (2 : Int32)).toInt64) ((sp_X4_setting (μ.1 j)  (1 : Int32)).toInt64) ((sp_X4_setting (μ.1 j)  (2 : Int32)).toInt64)) ((μ.1 j (sF n 3)).toInt64))) 6 2 (v_X2_diagnosisOf (μ.1 j) n (v_X2_extrapolated   (cps (μ.1 j) n (sp_X4_setting (μ.1 j)  (1 : Int32)).toInt64) (cps (μ.1 j) n (sp_X4_setting (μ.1 j)  (2 : Int32)).toInt64) ((sp_X4_setting (μ.1 j)  (1 : Int32)).toInt64) ((sp_X4_setting (μ.1 j)  (2 : Int32)).toInt64)) (one (μ.1 j) n (sp_X4_setting (μ.1 j)  (1 : Int32)).toInt64) (uni (μ.1 j)) (oth (μ.1 j) n (sp_X4_setting (μ.1 j)  (1 : Int32)).toInt64) (one (μ.1 j) n (sp_X4_setting (μ.1 j)  (2 : Int32)).toInt64) (uni (μ.1 j)) (oth (μ.1 j) n (sp_X4_setting (μ.1 j)  (2 : Int32)).toInt64) (v_X2_readingOf (μ.1 j) t2 (v_X2_extrapolated   (cps (μ.1 j) n (sp_X4_setting (μ.1 j)  (1 : Int32)).toInt64) (cps (μ.1 j) n (sp_X4_setting (μ.1 j)  (2 : Int32)).toInt64) ((sp_X4_setting (μ.1 j)  (1 : Int32)).toInt64) ((sp_X4_setting (μ.1 j)  (2 : Int32)).toInt64)) ((μ.1 j (sF n 3)).toInt64)) ))
set_option maxHeartbeats 4000000 in
set_option maxRecDepth 100000 in
theorem k_X2_measure (l : Launch) (E : En) (μ : Mu) {j : Nat} (hj : j < 6) {n : Nat} (hn : n < 6)  (h6 : j ≠ 6) : MtV l yX2_measure cX2_measure 7 ({ frames := 3, cells := 0, slots := 0, locals := 85 }) [.ref (E.1 (224)), .ref (E.1 (iS j)), .ref (E.1 (iN j n))] E μ (sp_X2_measure μ j n) := by
  refine mt_of (by decide +kernel) (Nat.le_of_ble_eq_true rfl) ?_
  intro p e s m args below meth c ls hf hr hlocks hl hw
  have hx := hf.1
  have hb := hf.2.1
  have hl : lv_has ls 7 [(0, .ref (E.1 (224))), (1, .ref (E.1 (iS j))), (2, .ref (E.1 (iN j n)))] := hl
  refine lv_aload_n hx hb dX2_measure_0 rfl (lv_at hl 1 rfl) ?_
  refine lv_iconst (v := 1) hx hb dX2_measure_1 (by decide) ?_
  refine c_iR hw (run_V (As := [.int 1]) (rest := []) (np := 1) hf hw (k_X4_setting l E _ hj (1 : Int32)  ) ⟨gl_V q259 q118 q119 q22 q120, by decide +kernel⟩ ⟨rfl, rfl, Nat.le_of_ble_eq_true rfl, Nat.le_of_ble_eq_true rfl⟩ (lt_iS hj) (c_iS E _ hj) rfl rfl hl.1 rfl (Nat.le_of_ble_eq_true rfl) dX2_measure_2 ⟨Nat.zero_le _, Nat.zero_le _⟩) (fun H locs hw => ?_)
  refine lv_i2l hx hb dX2_measure_5 rfl ?_
  refine lv_lstore_n (lv' := [(3, .long ((sp_X4_setting (μ.1 j)  (1 : Int32)).toInt64)), (0, .ref (E.1 (224))), (1, .ref (E.1 (iS j))), (2, .ref (E.1 (iN j n)))]) hx hb dX2_measure_6 rfl hl (by decide) rfl (fun ls hl => ?_)
  refine lv_aload_n hx hb dX2_measure_7 rfl (lv_at hl 2 rfl) ?_
  refine lv_iconst (v := 2) hx hb dX2_measure_8 (by decide) ?_
  refine c_iR hw (run_V (As := [.int 2]) (rest := []) (np := 1) hf hw (k_X4_setting l E _ hj (2 : Int32)  ) ⟨gl_V q259 q118 q119 q22 q120, by decide +kernel⟩ ⟨rfl, rfl, Nat.le_of_ble_eq_true rfl, Nat.le_of_ble_eq_true rfl⟩ (lt_iS hj) (c_iS E _ hj) rfl rfl hl.1 rfl (Nat.le_of_ble_eq_true rfl) dX2_measure_9 ⟨Nat.zero_le _, Nat.zero_le _⟩) (fun H locs hw => ?_)
  refine lv_i2l hx hb dX2_measure_12 rfl ?_
  refine lv_lstore (lv' := [(5, .long ((sp_X4_setting (μ.1 j)  (2 : Int32)).toInt64)), (3, .long ((sp_X4_setting (μ.1 j)  (1 : Int32)).toInt64)), (0, .ref (E.1 (224))), (1, .ref (E.1 (iS j))), (2, .ref (E.1 (iN j n)))]) hx hb dX2_measure_13 hl (by decide) rfl (fun ls hl => ?_)
  refine lv_aload_n hx hb dX2_measure_15 rfl (lv_at hl 2 rfl) ?_
  refine g_f hw hf (by decide) (c_Me E _) rfl inlX2 0 (by decide) rfl q84 rfl dX2_measure_16 ?_
  refine lv_aload_n hx hb dX2_measure_19 rfl (lv_at hl 3 rfl) ?_
  refine lv_aload_n hx hb dX2_measure_20 rfl (lv_at hl 4 rfl) ?_
  refine lv_aload_n hx hb dX2_measure_21 rfl (lv_at hl 3 rfl) ?_
  refine lv_iconst (v := 1) hx hb dX2_measure_22 (by decide) ?_
  refine c_iR hw (run_V (As := [.int 1]) (rest := [.ref (E.1 (iN j n)), .ref (E.1 (iS j)), .ref (E.1 (iM 0))]) (np := 1) hf hw (k_X4_setting l E _ hj (1 : Int32)  ) ⟨gl_V q259 q118 q119 q22 q120, by decide +kernel⟩ ⟨rfl, rfl, Nat.le_of_ble_eq_true rfl, Nat.le_of_ble_eq_true rfl⟩ (lt_iS hj) (c_iS E _ hj) rfl rfl hl.1 rfl (Nat.le_of_ble_eq_true rfl) dX2_measure_23 ⟨Nat.zero_le _, Nat.zero_le _⟩) (fun H locs hw => ?_)
  refine c_v hw (run_V (As := [.ref (E.1 (iS j)), .ref (E.1 (iN j n)), .int (sp_X4_setting (μ.1 j)  (1 : Int32))]) (rest := []) (np := 3) hf hw (kn_X1_take l E _ (by decide) hj hn (sp_X4_setting (μ.1 j)  (1 : Int32))  ) ⟨gl_V q260 q261 q262 q35 q263, by decide +kernel⟩ ⟨rfl, rfl, Nat.le_of_ble_eq_true rfl, Nat.le_of_ble_eq_true rfl⟩ (lt_iM (by decide)) (c_iM E _ (by decide)) rfl rfl hl.1 rfl (Nat.le_of_ble_eq_true rfl) dX2_measure_26 ⟨Nat.zero_le _, Nat.zero_le _⟩) (fun H locs hw => ?_)
  refine lv_aload_n hx hb dX2_measure_29 rfl (lv_at hl 2 rfl) ?_
  refine g_f hw hf (by decide) (c_Me E _) rfl inlX2 1 (by decide) rfl q85 rfl dX2_measure_30 ?_
  refine lv_aload_n hx hb dX2_measure_33 rfl (lv_at hl 3 rfl) ?_
  refine lv_aload_n hx hb dX2_measure_34 rfl (lv_at hl 4 rfl) ?_
  refine lv_aload_n hx hb dX2_measure_35 rfl (lv_at hl 3 rfl) ?_
  refine lv_iconst (v := 2) hx hb dX2_measure_36 (by decide) ?_
  refine c_iR hw (run_V (As := [.int 2]) (rest := [.ref (E.1 (iN j n)), .ref (E.1 (iS j)), .ref (E.1 (iM 1))]) (np := 1) hf hw (k_X4_setting l E _ hj (2 : Int32)  ) ⟨gl_V q259 q118 q119 q22 q120, by decide +kernel⟩ ⟨rfl, rfl, Nat.le_of_ble_eq_true rfl, Nat.le_of_ble_eq_true rfl⟩ (lt_iS hj) (c_iS E _ hj) rfl rfl hl.1 rfl (Nat.le_of_ble_eq_true rfl) dX2_measure_37 ⟨Nat.zero_le _, Nat.zero_le _⟩) (fun H locs hw => ?_)
  refine fold_i (y := sp_X4_setting (μ.1 j)  (2 : Int32)) (by first | rfl | (simp [pM, pJ, upM_r, tk_M, tk_K, tk_0, tk_1, tk_2, tk_3, tk_4, tk_5, tk_6, tk_7, tk_8, tk_9, tk_10, tk_o, h6]; done)) ?_
  refine c_v hw (run_V (As := [.ref (E.1 (iS j)), .ref (E.1 (iN j n)), .int (sp_X4_setting (μ.1 j)  (2 : Int32))]) (rest := []) (np := 3) hf hw (kn_X1_take l E _ (by decide) hj hn (sp_X4_setting (μ.1 j)  (2 : Int32))  ) ⟨gl_V q260 q261 q262 q35 q263, by decide +kernel⟩ ⟨rfl, rfl, Nat.le_of_ble_eq_true rfl, Nat.le_of_ble_eq_true rfl⟩ (lt_iM (by decide)) (c_iM E _ (by decide)) rfl rfl hl.1 rfl (Nat.le_of_ble_eq_true rfl) dX2_measure_40 ⟨Nat.zero_le _, Nat.zero_le _⟩) (fun H locs hw => ?_)
  refine lv_aload_n hx hb dX2_measure_43 rfl (lv_at hl 2 rfl) ?_
  refine lv_aload_n hx hb dX2_measure_44 rfl (lv_at hl 2 rfl) ?_
  refine lv_lload_n hx hb dX2_measure_45 rfl (lv_at hl 1 rfl) ?_
  refine lv_lload hx hb dX2_measure_46 (lv_at hl 0 rfl) ?_
  refine c_lR hw (run_V (As := [.long ((sp_X4_setting (μ.1 j)  (1 : Int32)).toInt64), .long ((sp_X4_setting (μ.1 j)  (2 : Int32)).toInt64)]) (rest := [.ref (E.1 (224))]) (np := 2) hf hw (kn_X2_extrapolated l E _  ((sp_X4_setting (μ.1 j)  (1 : Int32)).toInt64) ((sp_X4_setting (μ.1 j)  (2 : Int32)).toInt64)  ) ⟨gl_V q316 q317 q318 q31 q319, by decide +kernel⟩ ⟨rfl, rfl, Nat.le_of_ble_eq_true rfl, Nat.le_of_ble_eq_true rfl⟩ (by decide) (c_Me E _) rfl rfl hl.1 rfl (Nat.le_of_ble_eq_true rfl) dX2_measure_48 ⟨Nat.zero_le _, Nat.zero_le _⟩) (fun H locs hw => ?_)
  refine fold_l (y := v_X2_extrapolated   (cps (μ.1 j) n (sp_X4_setting (μ.1 j)  (1 : Int32)).toInt64) (cps (μ.1 j) n (sp_X4_setting (μ.1 j)  (2 : Int32)).toInt64) ((sp_X4_setting (μ.1 j)  (1 : Int32)).toInt64) ((sp_X4_setting (μ.1 j)  (2 : Int32)).toInt64)) (by first | (simp [pM, pJ, upM, upJ, upM_r, tk_M, tk_K, tk_0, tk_1, tk_2, tk_3, tk_4, tk_5, tk_6, tk_7, tk_8, tk_9, tk_10, tk_o, h6]; done) | (simp (disch := (first | omega | (simp only [tN, tD, tR, sF]; omega))) only [pM, pJ, upM_s, upM_k, upM_c, upJ_s, upJ_k, upJ_c, tk_M, tk_K, tk_0, tk_1, tk_2, tk_3, tk_4, tk_5, tk_6, tk_7, tk_8, tk_9, tk_10, tk_o, h6]; done) | rfl) ?_
  refine p_f hw hf (by decide) (c_Me E _) rfl inlX2 tyX2_ok nmX2 2 (by decide) rfl q254 rfl rfl rfl (Nat.le_of_ble_eq_true rfl) (s_Me_2 E _ _) dX2_measure_51 (fun H locs hw => ?_)
  refine lv_aload_n hx hb dX2_measure_54 rfl (lv_at hl 2 rfl) ?_
  refine lv_aload_n hx hb dX2_measure_55 rfl (lv_at hl 2 rfl) ?_
  refine lv_aload_n hx hb dX2_measure_56 rfl (lv_at hl 3 rfl) ?_
  refine lv_aload_n hx hb dX2_measure_57 rfl (lv_at hl 4 rfl) ?_
  refine g_f hw hf (lt_iN hj hn) (c_iN E _ hj hn) rfl inlX3 0 (by decide) rfl q255 (congrArg (fun z => some (Value.int z)) (show _ = μ.1 j (sF n 0) from (by first | (simp [pM, pJ, upM, upJ, sF, tN, tD, tR, tk_M, tk_K, tk_0, tk_1, tk_2, tk_3, tk_4, tk_5, tk_6, tk_7, tk_8, tk_9, tk_10, tk_o, h6]; done) | (simp (disch := (first | omega | (simp only [tN, tD, tR, sF]; omega))) only [pM, pJ, upM_s, upM_k, upM_c, upJ_s, upJ_k, upJ_c, tk_M, tk_K, tk_0, tk_1, tk_2, tk_3, tk_4, tk_5, tk_6, tk_7, tk_8, tk_9, tk_10, tk_o])))) dX2_measure_58 ?_
  refine c_q hw (run_V (As := [.int (μ.1 j (sF n 0))]) (rest := [.ref (E.1 (224)), .ref (E.1 (224))]) (np := 1) hf hw (k_X4_tableAt l E _ hj (μ.1 j (sF n 0))  ) ⟨gl_V q325 q122 q123 q22 q124, by decide +kernel⟩ ⟨rfl, rfl, Nat.le_of_ble_eq_true rfl, Nat.le_of_ble_eq_true rfl⟩ (lt_iS hj) (c_iS E _ hj) rfl rfl hl.1 rfl (Nat.le_of_ble_eq_true rfl) dX2_measure_61 ⟨Nat.zero_le _, Nat.zero_le _⟩) (fun H locs hw => ?_)
  refine W.eq (g2 := F0 m 64 ls [va_rf (Option.map E.1 (Option.map (iT j) (sp_X4_tableAt (μ.1 j)  (μ.1 j (sF n 0))))), .ref (E.1 (224)), .ref (E.1 (224))]) (by first | rfl | (simp [pM, pJ, upM_r, tk_M, tk_K, tk_0, tk_1, tk_2, tk_3, tk_4, tk_5, tk_6, tk_7, tk_8, tk_9, tk_10, tk_o, h6]; done)) ?_
  rcases o1 : sp_X4_tableAt (μ.1 j)  (μ.1 j (sF n 0)) with _ | t2
  · refine W.eq (g2 := F0 m 64 ls [.null, .ref (E.1 (224)), .ref (E.1 (224))]) rfl ?_
    refine lv_aload_n hx hb dX2_measure_64 rfl (lv_at hl 4 rfl) ?_
    refine g_f hw hf (lt_iN hj hn) (c_iN E _ hj hn) rfl inlX3 3 (by decide) rfl q256 (congrArg (fun z => some (Value.int z)) (show _ = μ.1 j (sF n 3) from (by first | (simp [pM, pJ, upM, upJ, sF, tN, tD, tR, tk_M, tk_K, tk_0, tk_1, tk_2, tk_3, tk_4, tk_5, tk_6, tk_7, tk_8, tk_9, tk_10, tk_o, h6]; done) | (simp (disch := (first | omega | (simp only [tN, tD, tR, sF]; omega))) only [pM, pJ, upM_s, upM_k, upM_c, upJ_s, upJ_k, upJ_c, tk_M, tk_K, tk_0, tk_1, tk_2, tk_3, tk_4, tk_5, tk_6, tk_7, tk_8, tk_9, tk_10, tk_o])))) dX2_measure_65 ?_
    refine lv_i2l hx hb dX2_measure_68 rfl ?_
    refine c_iR hw (run_V (As := [.null, .long ((μ.1 j (sF n 3)).toInt64)]) (rest := [.ref (E.1 (224))]) (np := 2) hf hw (k_X2_readingOf_n l E _  ((μ.1 j (sF n 3)).toInt64)  ) ⟨gl_V q326 q327 q328 q31 q329, by decide +kernel⟩ ⟨rfl, rfl, Nat.le_of_ble_eq_true rfl, Nat.le_of_ble_eq_true rfl⟩ (by decide) (c_Me E _) rfl rfl hl.1 rfl (Nat.le_of_ble_eq_true rfl) dX2_measure_69 ⟨Nat.zero_le _, Nat.zero_le _⟩) (fun H locs hw => ?_)
    refine fold_i (y := sp_X2_readingOf_n   ((μ.1 j (sF n 3)).toInt64)) (by first | rfl | (simp [pM, pJ, upM_r, tk_M, tk_K, tk_0, tk_1, tk_2, tk_3, tk_4, tk_5, tk_6, tk_7, tk_8, tk_9, tk_10, tk_o, h6]; done)) ?_
    refine p_f hw hf (by decide) (c_Me E _) rfl inlX2 tyX2_ok nmX2 3 (by decide) rfl q257 rfl rfl rfl (Nat.le_of_ble_eq_true rfl) (s_Me_3 E _ _) dX2_measure_72 (fun H locs hw => ?_)
    refine lv_aload_n hx hb dX2_measure_75 rfl (lv_at hl 2 rfl) ?_
    refine lv_aload_n hx hb dX2_measure_76 rfl (lv_at hl 2 rfl) ?_
    refine lv_aload_n hx hb dX2_measure_77 rfl (lv_at hl 3 rfl) ?_
    refine lv_aload_n hx hb dX2_measure_78 rfl (lv_at hl 4 rfl) ?_
    refine c_iR hw (run_V (As := [.ref (E.1 (iS j)), .ref (E.1 (iN j n))]) (rest := [.ref (E.1 (224))]) (np := 2) hf hw (kn_X2_diagnosisOf l E _ hj hn   ) ⟨gl_V q333 q334 q335 q31 q336, by decide +kernel⟩ ⟨rfl, rfl, Nat.le_of_ble_eq_true rfl, Nat.le_of_ble_eq_true rfl⟩ (by decide) (c_Me E _) rfl rfl hl.1 rfl (Nat.le_of_ble_eq_true rfl) dX2_measure_79 ⟨Nat.zero_le _, Nat.zero_le _⟩) (fun H locs hw => ?_)
    refine fold_i (y := v_X2_diagnosisOf (μ.1 j) n (v_X2_extrapolated   (cps (μ.1 j) n (sp_X4_setting (μ.1 j)  (1 : Int32)).toInt64) (cps (μ.1 j) n (sp_X4_setting (μ.1 j)  (2 : Int32)).toInt64) ((sp_X4_setting (μ.1 j)  (1 : Int32)).toInt64) ((sp_X4_setting (μ.1 j)  (2 : Int32)).toInt64)) (one (μ.1 j) n (sp_X4_setting (μ.1 j)  (1 : Int32)).toInt64) (uni (μ.1 j)) (oth (μ.1 j) n (sp_X4_setting (μ.1 j)  (1 : Int32)).toInt64) (one (μ.1 j) n (sp_X4_setting (μ.1 j)  (2 : Int32)).toInt64) (uni (μ.1 j)) (oth (μ.1 j) n (sp_X4_setting (μ.1 j)  (2 : Int32)).toInt64) (sp_X2_readingOf_n   ((μ.1 j (sF n 3)).toInt64)) ) (by first | (simp [pM, pJ, upM, upJ, upM_r, tk_M, tk_K, tk_0, tk_1, tk_2, tk_3, tk_4, tk_5, tk_6, tk_7, tk_8, tk_9, tk_10, tk_o, h6]; done) | (simp (disch := (first | omega | (simp only [tN, tD, tR, sF]; omega))) only [pM, pJ, upM_s, upM_k, upM_c, upJ_s, upJ_k, upJ_c, tk_M, tk_K, tk_0, tk_1, tk_2, tk_3, tk_4, tk_5, tk_6, tk_7, tk_8, tk_9, tk_10, tk_o, h6]; done) | rfl) ?_
    refine p_f hw hf (by decide) (c_Me E _) rfl inlX2 tyX2_ok nmX2 4 (by decide) rfl q258 rfl rfl rfl (Nat.le_of_ble_eq_true rfl) (s_Me_4 E _ _) dX2_measure_82 (fun H locs hw => ?_)
    exact e_v hf hr hlocks hw ((oc_none o1).trans rfl) dX2_measure_85
  · have ht3 : t2 < 3 := (b_X4_tableAt o1)
    refine W.eq (g2 := F0 m 64 ls [.ref (E.1 (iT j t2)), .ref (E.1 (224)), .ref (E.1 (224))]) rfl ?_
    refine lv_aload_n hx hb dX2_measure_64 rfl (lv_at hl 4 rfl) ?_
    refine g_f hw hf (lt_iN hj hn) (c_iN E _ hj hn) rfl inlX3 3 (by decide) rfl q256 (congrArg (fun z => some (Value.int z)) (show _ = μ.1 j (sF n 3) from (by first | (simp [pM, pJ, upM, upJ, sF, tN, tD, tR, tk_M, tk_K, tk_0, tk_1, tk_2, tk_3, tk_4, tk_5, tk_6, tk_7, tk_8, tk_9, tk_10, tk_o, h6]; done) | (simp (disch := (first | omega | (simp only [tN, tD, tR, sF]; omega))) only [pM, pJ, upM_s, upM_k, upM_c, upJ_s, upJ_k, upJ_c, tk_M, tk_K, tk_0, tk_1, tk_2, tk_3, tk_4, tk_5, tk_6, tk_7, tk_8, tk_9, tk_10, tk_o])))) dX2_measure_65 ?_
    refine lv_i2l hx hb dX2_measure_68 rfl ?_
    refine c_iR hw (run_V (As := [.ref (E.1 (iT j t2)), .long ((μ.1 j (sF n 3)).toInt64)]) (rest := [.ref (E.1 (224))]) (np := 2) hf hw (kn_X2_readingOf l E _ hj ht3 ((μ.1 j (sF n 3)).toInt64)  ) ⟨gl_V q326 q327 q328 q31 q329, by decide +kernel⟩ ⟨rfl, rfl, Nat.le_of_ble_eq_true rfl, Nat.le_of_ble_eq_true rfl⟩ (by decide) (c_Me E _) rfl rfl hl.1 rfl (Nat.le_of_ble_eq_true rfl) dX2_measure_69 ⟨Nat.zero_le _, Nat.zero_le _⟩) (fun H locs hw => ?_)
    refine fold_i (y := v_X2_readingOf (μ.1 j) t2 (v_X2_extrapolated   (cps (μ.1 j) n (sp_X4_setting (μ.1 j)  (1 : Int32)).toInt64) (cps (μ.1 j) n (sp_X4_setting (μ.1 j)  (2 : Int32)).toInt64) ((sp_X4_setting (μ.1 j)  (1 : Int32)).toInt64) ((sp_X4_setting (μ.1 j)  (2 : Int32)).toInt64)) ((μ.1 j (sF n 3)).toInt64)) (by first | (simp [pM, pJ, upM, upJ, upM_r, tk_M, tk_K, tk_0, tk_1, tk_2, tk_3, tk_4, tk_5, tk_6, tk_7, tk_8, tk_9, tk_10, tk_o, h6]; done) | (simp (disch := (first | omega | (simp only [tN, tD, tR, sF]; omega))) only [pM, pJ, upM_s, upM_k, upM_c, upJ_s, upJ_k, upJ_c, tk_M, tk_K, tk_0, tk_1, tk_2, tk_3, tk_4, tk_5, tk_6, tk_7, tk_8, tk_9, tk_10, tk_o, h6]; done) | rfl) ?_
    refine p_f hw hf (by decide) (c_Me E _) rfl inlX2 tyX2_ok nmX2 3 (by decide) rfl q257 rfl rfl rfl (Nat.le_of_ble_eq_true rfl) (s_Me_3 E _ _) dX2_measure_72 (fun H locs hw => ?_)
    refine lv_aload_n hx hb dX2_measure_75 rfl (lv_at hl 2 rfl) ?_
    refine lv_aload_n hx hb dX2_measure_76 rfl (lv_at hl 2 rfl) ?_
    refine lv_aload_n hx hb dX2_measure_77 rfl (lv_at hl 3 rfl) ?_
    refine lv_aload_n hx hb dX2_measure_78 rfl (lv_at hl 4 rfl) ?_
    refine c_iR hw (run_V (As := [.ref (E.1 (iS j)), .ref (E.1 (iN j n))]) (rest := [.ref (E.1 (224))]) (np := 2) hf hw (kn_X2_diagnosisOf l E _ hj hn   ) ⟨gl_V q333 q334 q335 q31 q336, by decide +kernel⟩ ⟨rfl, rfl, Nat.le_of_ble_eq_true rfl, Nat.le_of_ble_eq_true rfl⟩ (by decide) (c_Me E _) rfl rfl hl.1 rfl (Nat.le_of_ble_eq_true rfl) dX2_measure_79 ⟨Nat.zero_le _, Nat.zero_le _⟩) (fun H locs hw => ?_)
    refine fold_i (y := v_X2_diagnosisOf (μ.1 j) n (v_X2_extrapolated   (cps (μ.1 j) n (sp_X4_setting (μ.1 j)  (1 : Int32)).toInt64) (cps (μ.1 j) n (sp_X4_setting (μ.1 j)  (2 : Int32)).toInt64) ((sp_X4_setting (μ.1 j)  (1 : Int32)).toInt64) ((sp_X4_setting (μ.1 j)  (2 : Int32)).toInt64)) (one (μ.1 j) n (sp_X4_setting (μ.1 j)  (1 : Int32)).toInt64) (uni (μ.1 j)) (oth (μ.1 j) n (sp_X4_setting (μ.1 j)  (1 : Int32)).toInt64) (one (μ.1 j) n (sp_X4_setting (μ.1 j)  (2 : Int32)).toInt64) (uni (μ.1 j)) (oth (μ.1 j) n (sp_X4_setting (μ.1 j)  (2 : Int32)).toInt64) (v_X2_readingOf (μ.1 j) t2 (v_X2_extrapolated   (cps (μ.1 j) n (sp_X4_setting (μ.1 j)  (1 : Int32)).toInt64) (cps (μ.1 j) n (sp_X4_setting (μ.1 j)  (2 : Int32)).toInt64) ((sp_X4_setting (μ.1 j)  (1 : Int32)).toInt64) ((sp_X4_setting (μ.1 j)  (2 : Int32)).toInt64)) ((μ.1 j (sF n 3)).toInt64)) ) (by first | (simp [pM, pJ, upM, upJ, upM_r, tk_M, tk_K, tk_0, tk_1, tk_2, tk_3, tk_4, tk_5, tk_6, tk_7, tk_8, tk_9, tk_10, tk_o, h6]; done) | (simp (disch := (first | omega | (simp only [tN, tD, tR, sF]; omega))) only [pM, pJ, upM_s, upM_k, upM_c, upJ_s, upJ_k, upJ_c, tk_M, tk_K, tk_0, tk_1, tk_2, tk_3, tk_4, tk_5, tk_6, tk_7, tk_8, tk_9, tk_10, tk_o, h6]; done) | rfl) ?_
    refine p_f hw hf (by decide) (c_Me E _) rfl inlX2 tyX2_ok nmX2 4 (by decide) rfl q258 rfl rfl rfl (Nat.le_of_ble_eq_true rfl) (s_Me_4 E _ _) dX2_measure_82 (fun H locs hw => ?_)
    exact e_v hf hr hlocks hw ((oc_some o1).trans rfl) dX2_measure_85
theorem n_X2_measure (μ : Mu) (j : Nat) (n : Nat)  (h6 : j ≠ 6) : (sp_X2_measure μ j n) = msr μ j n := by
  unfold sp_X2_measure msr dgn rdg wop cur1 cur2
  cases sp_X4_tableAt (μ.1 j) (μ.1 j (sF n 0)) <;> rfl
theorem kn_X2_measure (l : Launch) (E : En) (μ : Mu) {j : Nat} (hj : j < 6) {n : Nat} (hn : n < 6)  (h6 : j ≠ 6) : MtV l yX2_measure cX2_measure 7 ({ frames := 3, cells := 0, slots := 0, locals := 85 }) [.ref (E.1 (224)), .ref (E.1 (iS j)), .ref (E.1 (iN j n))] E μ (msr μ j n) := by
  rw [← n_X2_measure μ j n h6]
  exact k_X2_measure l E μ hj hn  h6
theorem ms_0_7 (μ : Mu) (j n : Nat) : (msr μ j n).2.1 0 7 = (cur1 (μ.1 j)).toInt64 := by simp [msr, pM, pJ, upM, upJ, tk_M, tk_K, tk_0, tk_1, tk_2, tk_3, tk_4, tk_5, tk_6, tk_7, tk_8, tk_9, tk_10, tk_o]
theorem ms_0_8 (μ : Mu) (j n : Nat) : (msr μ j n).2.1 0 8 = rfr (μ.1 j) := by simp [msr, pM, pJ, upM, upJ, tk_M, tk_K, tk_0, tk_1, tk_2, tk_3, tk_4, tk_5, tk_6, tk_7, tk_8, tk_9, tk_10, tk_o]
theorem ms_0_9 (μ : Mu) (j n : Nat) : (msr μ j n).2.1 0 9 = uni (μ.1 j) := by simp [msr, pM, pJ, upM, upJ, tk_M, tk_K, tk_0, tk_1, tk_2, tk_3, tk_4, tk_5, tk_6, tk_7, tk_8, tk_9, tk_10, tk_o]
theorem ms_0_10 (μ : Mu) (j n : Nat) : (msr μ j n).2.1 0 10 = stry (μ.1 j) n := by simp [msr, pM, pJ, upM, upJ, tk_M, tk_K, tk_0, tk_1, tk_2, tk_3, tk_4, tk_5, tk_6, tk_7, tk_8, tk_9, tk_10, tk_o]
theorem ms_0_0 (μ : Mu) (j n : Nat) : (msr μ j n).2.1 0 0 = htq (μ.1 j) n (cur1 (μ.1 j)).toInt64 := by simp [msr, pM, pJ, upM, upJ, tk_M, tk_K, tk_0, tk_1, tk_2, tk_3, tk_4, tk_5, tk_6, tk_7, tk_8, tk_9, tk_10, tk_o]
theorem ms_0_1 (μ : Mu) (j n : Nat) : (msr μ j n).2.1 0 1 = one (μ.1 j) n (cur1 (μ.1 j)).toInt64 := by simp [msr, pM, pJ, upM, upJ, tk_M, tk_K, tk_0, tk_1, tk_2, tk_3, tk_4, tk_5, tk_6, tk_7, tk_8, tk_9, tk_10, tk_o]
theorem ms_0_2 (μ : Mu) (j n : Nat) : (msr μ j n).2.1 0 2 = oth (μ.1 j) n (cur1 (μ.1 j)).toInt64 := by simp [msr, pM, pJ, upM, upJ, tk_M, tk_K, tk_0, tk_1, tk_2, tk_3, tk_4, tk_5, tk_6, tk_7, tk_8, tk_9, tk_10, tk_o]
theorem ms_0_3 (μ : Mu) (j n : Nat) : (msr μ j n).2.1 0 3 = on2 (μ.1 j) n (cur1 (μ.1 j)).toInt64 := by simp [msr, pM, pJ, upM, upJ, tk_M, tk_K, tk_0, tk_1, tk_2, tk_3, tk_4, tk_5, tk_6, tk_7, tk_8, tk_9, tk_10, tk_o]
theorem ms_0_4 (μ : Mu) (j n : Nat) : (msr μ j n).2.1 0 4 = ot2 (μ.1 j) n (cur1 (μ.1 j)).toInt64 := by simp [msr, pM, pJ, upM, upJ, tk_M, tk_K, tk_0, tk_1, tk_2, tk_3, tk_4, tk_5, tk_6, tk_7, tk_8, tk_9, tk_10, tk_o]
theorem ms_0_5 (μ : Mu) (j n : Nat) : (msr μ j n).2.1 0 5 = lpo (μ.1 j) n (cur1 (μ.1 j)).toInt64 := by simp [msr, pM, pJ, upM, upJ, tk_M, tk_K, tk_0, tk_1, tk_2, tk_3, tk_4, tk_5, tk_6, tk_7, tk_8, tk_9, tk_10, tk_o]
theorem ms_0_6 (μ : Mu) (j n : Nat) : (msr μ j n).2.1 0 6 = cps (μ.1 j) n (cur1 (μ.1 j)).toInt64 := by simp [msr, pM, pJ, upM, upJ, tk_M, tk_K, tk_0, tk_1, tk_2, tk_3, tk_4, tk_5, tk_6, tk_7, tk_8, tk_9, tk_10, tk_o]
theorem ms_1_7 (μ : Mu) (j n : Nat) : (msr μ j n).2.1 1 7 = (cur2 (μ.1 j)).toInt64 := by simp [msr, pM, pJ, upM, upJ, tk_M, tk_K, tk_0, tk_1, tk_2, tk_3, tk_4, tk_5, tk_6, tk_7, tk_8, tk_9, tk_10, tk_o]
theorem ms_1_8 (μ : Mu) (j n : Nat) : (msr μ j n).2.1 1 8 = rfr (μ.1 j) := by simp [msr, pM, pJ, upM, upJ, tk_M, tk_K, tk_0, tk_1, tk_2, tk_3, tk_4, tk_5, tk_6, tk_7, tk_8, tk_9, tk_10, tk_o]
theorem ms_1_9 (μ : Mu) (j n : Nat) : (msr μ j n).2.1 1 9 = uni (μ.1 j) := by simp [msr, pM, pJ, upM, upJ, tk_M, tk_K, tk_0, tk_1, tk_2, tk_3, tk_4, tk_5, tk_6, tk_7, tk_8, tk_9, tk_10, tk_o]
theorem ms_1_10 (μ : Mu) (j n : Nat) : (msr μ j n).2.1 1 10 = stry (μ.1 j) n := by simp [msr, pM, pJ, upM, upJ, tk_M, tk_K, tk_0, tk_1, tk_2, tk_3, tk_4, tk_5, tk_6, tk_7, tk_8, tk_9, tk_10, tk_o]
theorem ms_1_0 (μ : Mu) (j n : Nat) : (msr μ j n).2.1 1 0 = htq (μ.1 j) n (cur2 (μ.1 j)).toInt64 := by simp [msr, pM, pJ, upM, upJ, tk_M, tk_K, tk_0, tk_1, tk_2, tk_3, tk_4, tk_5, tk_6, tk_7, tk_8, tk_9, tk_10, tk_o]
theorem ms_1_1 (μ : Mu) (j n : Nat) : (msr μ j n).2.1 1 1 = one (μ.1 j) n (cur2 (μ.1 j)).toInt64 := by simp [msr, pM, pJ, upM, upJ, tk_M, tk_K, tk_0, tk_1, tk_2, tk_3, tk_4, tk_5, tk_6, tk_7, tk_8, tk_9, tk_10, tk_o]
theorem ms_1_2 (μ : Mu) (j n : Nat) : (msr μ j n).2.1 1 2 = oth (μ.1 j) n (cur2 (μ.1 j)).toInt64 := by simp [msr, pM, pJ, upM, upJ, tk_M, tk_K, tk_0, tk_1, tk_2, tk_3, tk_4, tk_5, tk_6, tk_7, tk_8, tk_9, tk_10, tk_o]
theorem ms_1_3 (μ : Mu) (j n : Nat) : (msr μ j n).2.1 1 3 = on2 (μ.1 j) n (cur2 (μ.1 j)).toInt64 := by simp [msr, pM, pJ, upM, upJ, tk_M, tk_K, tk_0, tk_1, tk_2, tk_3, tk_4, tk_5, tk_6, tk_7, tk_8, tk_9, tk_10, tk_o]
theorem ms_1_4 (μ : Mu) (j n : Nat) : (msr μ j n).2.1 1 4 = ot2 (μ.1 j) n (cur2 (μ.1 j)).toInt64 := by simp [msr, pM, pJ, upM, upJ, tk_M, tk_K, tk_0, tk_1, tk_2, tk_3, tk_4, tk_5, tk_6, tk_7, tk_8, tk_9, tk_10, tk_o]
theorem ms_1_5 (μ : Mu) (j n : Nat) : (msr μ j n).2.1 1 5 = lpo (μ.1 j) n (cur2 (μ.1 j)).toInt64 := by simp [msr, pM, pJ, upM, upJ, tk_M, tk_K, tk_0, tk_1, tk_2, tk_3, tk_4, tk_5, tk_6, tk_7, tk_8, tk_9, tk_10, tk_o]
theorem ms_1_6 (μ : Mu) (j n : Nat) : (msr μ j n).2.1 1 6 = cps (μ.1 j) n (cur2 (μ.1 j)).toInt64 := by simp [msr, pM, pJ, upM, upJ, tk_M, tk_K, tk_0, tk_1, tk_2, tk_3, tk_4, tk_5, tk_6, tk_7, tk_8, tk_9, tk_10, tk_o]
theorem ms_w (μ : Mu) (j n : Nat) : (msr μ j n).2.1 3 0 = wop (μ.1 j) n := by simp [msr, pM, pJ, upM, upJ]
theorem ms_r (μ : Mu) (j n : Nat) : (msr μ j n).1 6 1 = rdg (μ.1 j) n := by simp [msr, pM, upM]
theorem ms_d (μ : Mu) (j n : Nat) : (msr μ j n).1 6 2 = dgn (μ.1 j) n := by simp [msr, pM, upM]
theorem ms_M (μ : Mu) {j j2 : Nat} (n : Nat) (h : j2 ≠ 6) : (msr μ j n).1 j2 = μ.1 j2 := by
  funext k
  simp [msr, pM, pJ, upM, h, tk_M]
theorem ms_6 (μ : Mu) (j n : Nat) {k : Nat} (h1 : k ≠ 1) (h2 : k ≠ 2) : (msr μ j n).1 6 k = μ.1 6 k := by simp [msr, pM, pJ, upM, h1, h2, tk_M]
theorem ms_K (μ : Mu) (j n : Nat) : (msr μ j n).2.2 = μ.2.2 := rfl
