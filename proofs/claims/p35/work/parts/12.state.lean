/-! ===== State ===== -/
def sp_X4_tableAt (g : Nat → Int32)  (w : Int32) : Option Nat :=
  if (w : Int32) < 0 then
    none
  else
    if (g 0 : Int32) ≤ w then
      none
    else
      if (3 : Int32) ≤ w then
        none
      else
        some w.toNatClampNeg
set_option maxHeartbeats 4000000 in
set_option maxRecDepth 100000 in
theorem k_X4_tableAt (l : Launch) (E : En) (μ : Mu) {j : Nat} (hj : j < 6) (w : Int32)  : MtQ l yX4_tableAt cX4_tableAt 3 (.object "OhmBridge$Table") ({ frames := 0, cells := 0, slots := 0, locals := 0 }) [.ref (E.1 (iS j)), .int (w)] E μ ((sp_X4_tableAt (μ.1 j) w).map (iT j)) := by
  refine mt_of (by decide +kernel) (Nat.le_of_ble_eq_true rfl) ?_
  intro p e s m args below meth c ls hf hr hlocks hl hw
  have hx := hf.1
  have hb := hf.2.1
  have hl : lv_has ls 3 [(0, .ref (E.1 (iS j))), (1, .int (w))] := hl
  refine lv_iload_n hx hb dX4_tableAt_0 rfl (lv_at hl 1 rfl) ?_
  refine lv_if_lt (tgt := 25) hx hb dX4_tableAt_1 (by decide) (fun c1 => ?_) (fun c1 => ?_)
  · refine lv_iconst (v := 0) hx hb dX4_tableAt_25 (by decide) ?_
    refine lv_istore_n (lv' := [(2, .int 0), (0, .ref (E.1 (iS j))), (1, .int (w))]) hx hb dX4_tableAt_26 rfl hl (by decide) rfl (fun ls hl => ?_)
    refine lv_iload_n hx hb dX4_tableAt_27 rfl (lv_at hl 0 rfl) ?_
    refine lv_if_eq (tgt := 40) hx hb dX4_tableAt_28 (by decide) (fun _ => ?_) (fun c => absurd c (by decide))
    refine lv_null hx hb dX4_tableAt_40 ?_
    exact e_q (o' := none) hf hr hlocks hw ((if_pos c1).trans rfl) rfl dX4_tableAt_41
  · refine lv_iload_n hx hb dX4_tableAt_4 rfl (lv_at hl 1 rfl) ?_
    refine lv_aload_n hx hb dX4_tableAt_5 rfl (lv_at hl 0 rfl) ?_
    refine g_f hw hf (lt_iS hj) (c_iS E _ hj) rfl inlX4 0 (by decide) rfl q125 rfl dX4_tableAt_6 ?_
    refine lv_icmp_ge (tgt := 25) hx hb dX4_tableAt_9 (by decide) (fun c3 => ?_) (fun c3 => ?_)
    · refine lv_iconst (v := 0) hx hb dX4_tableAt_25 (by decide) ?_
      refine lv_istore_n (lv' := [(2, .int 0), (0, .ref (E.1 (iS j))), (1, .int (w))]) hx hb dX4_tableAt_26 rfl hl (by decide) rfl (fun ls hl => ?_)
      refine lv_iload_n hx hb dX4_tableAt_27 rfl (lv_at hl 0 rfl) ?_
      refine lv_if_eq (tgt := 40) hx hb dX4_tableAt_28 (by decide) (fun _ => ?_) (fun c => absurd c (by decide))
      refine lv_null hx hb dX4_tableAt_40 ?_
      exact e_q (o' := none) hf hr hlocks hw ((if_neg c1).trans ((if_pos c3).trans rfl)) rfl dX4_tableAt_41
    · refine lv_iload_n hx hb dX4_tableAt_12 rfl (lv_at hl 1 rfl) ?_
      refine lv_aload_n hx hb dX4_tableAt_13 rfl (lv_at hl 0 rfl) ?_
      refine g_f hw hf (lt_iS hj) (c_iS E _ hj) rfl inlX4 3 (by decide) rfl q49 rfl dX4_tableAt_14 ?_
      refine g_n hw hf (lt_iTs hj) (c_iTs E _ hj) (t0 := 2) (v := 3) rfl rfl dX4_tableAt_17 ?_
      refine lv_icmp_ge (tgt := 25) hx hb dX4_tableAt_18 (by decide) (fun c5 => ?_) (fun c5 => ?_)
      · refine lv_iconst (v := 0) hx hb dX4_tableAt_25 (by decide) ?_
        refine lv_istore_n (lv' := [(2, .int 0), (0, .ref (E.1 (iS j))), (1, .int (w))]) hx hb dX4_tableAt_26 rfl hl (by decide) rfl (fun ls hl => ?_)
        refine lv_iload_n hx hb dX4_tableAt_27 rfl (lv_at hl 0 rfl) ?_
        refine lv_if_eq (tgt := 40) hx hb dX4_tableAt_28 (by decide) (fun _ => ?_) (fun c => absurd c (by decide))
        refine lv_null hx hb dX4_tableAt_40 ?_
        exact e_q (o' := none) hf hr hlocks hw ((if_neg c1).trans ((if_neg c3).trans ((if_pos c5).trans rfl))) rfl dX4_tableAt_41
      · refine lv_iconst (v := 1) hx hb dX4_tableAt_21 (by decide) ?_
        refine lv_goto (tgt := 26) hx hb dX4_tableAt_22 (by decide) ?_
        refine lv_istore_n (lv' := [(2, .int 1), (0, .ref (E.1 (iS j))), (1, .int (w))]) hx hb dX4_tableAt_26 rfl hl (by decide) rfl (fun ls hl => ?_)
        refine lv_iload_n hx hb dX4_tableAt_27 rfl (lv_at hl 0 rfl) ?_
        refine lv_if_eq (tgt := 40) hx hb dX4_tableAt_28 (by decide) (fun c => absurd c (by decide)) (fun _ => ?_)
        refine lv_aload_n hx hb dX4_tableAt_31 rfl (lv_at hl 1 rfl) ?_
        refine g_f hw hf (lt_iS hj) (c_iS E _ hj) rfl inlX4 3 (by decide) rfl q49 rfl dX4_tableAt_32 ?_
        refine lv_iload_n hx hb dX4_tableAt_35 rfl (lv_at hl 2 rfl) ?_
        refine g_q hw hf (lt_iTs hj) (c_iTs E _ hj) (t0 := 2) rfl (vin 3 3 (by decide) (by decide) rfl c1 c5) (rf_T (y := w.toNatClampNeg) (vin_lt (vin 3 3 (by decide) (by decide) rfl c1 c5)) rfl) dX4_tableAt_36 ?_
        refine lv_goto (tgt := 41) hx hb dX4_tableAt_37 (by decide) ?_
        exact e_q (o' := some w.toNatClampNeg) hf hr hlocks hw ((if_neg c1).trans ((if_neg c3).trans ((if_neg c5).trans rfl))) rfl dX4_tableAt_41
theorem b_X4_tableAt {g : Nat → Int32} {w : Int32} {t : Nat} (h : sp_X4_tableAt g w = some t) : t < 3 := by
  unfold sp_X4_tableAt at h
  split at h
  · exact absurd h (by simp)
  · split at h
    · exact absurd h (by simp)
    · split at h
      · exact absurd h (by simp)
      · rename_i h1 h2 h3
        cases h
        exact vin_lt (vin 3 3 (by decide) (by decide) rfl h1 h3)
def sp_X4_sensorAt (g : Nat → Int32)  (w : Int32) : Option Nat :=
  if (w : Int32) < 0 then
    none
  else
    if (g 1 : Int32) ≤ w then
      none
    else
      if (6 : Int32) ≤ w then
        none
      else
        some w.toNatClampNeg
set_option maxHeartbeats 4000000 in
set_option maxRecDepth 100000 in
theorem k_X4_sensorAt (l : Launch) (E : En) (μ : Mu) {j : Nat} (hj : j < 6) (w : Int32)  : MtQ l yX4_sensorAt cX4_sensorAt 3 (.object "OhmBridge$Sensor") ({ frames := 0, cells := 0, slots := 0, locals := 0 }) [.ref (E.1 (iS j)), .int (w)] E μ ((sp_X4_sensorAt (μ.1 j) w).map (iN j)) := by
  refine mt_of (by decide +kernel) (Nat.le_of_ble_eq_true rfl) ?_
  intro p e s m args below meth c ls hf hr hlocks hl hw
  have hx := hf.1
  have hb := hf.2.1
  have hl : lv_has ls 3 [(0, .ref (E.1 (iS j))), (1, .int (w))] := hl
  refine lv_iload_n hx hb dX4_sensorAt_0 rfl (lv_at hl 1 rfl) ?_
  refine lv_if_lt (tgt := 25) hx hb dX4_sensorAt_1 (by decide) (fun c1 => ?_) (fun c1 => ?_)
  · refine lv_iconst (v := 0) hx hb dX4_sensorAt_25 (by decide) ?_
    refine lv_istore_n (lv' := [(2, .int 0), (0, .ref (E.1 (iS j))), (1, .int (w))]) hx hb dX4_sensorAt_26 rfl hl (by decide) rfl (fun ls hl => ?_)
    refine lv_iload_n hx hb dX4_sensorAt_27 rfl (lv_at hl 0 rfl) ?_
    refine lv_if_eq (tgt := 40) hx hb dX4_sensorAt_28 (by decide) (fun _ => ?_) (fun c => absurd c (by decide))
    refine lv_null hx hb dX4_sensorAt_40 ?_
    exact e_q (o' := none) hf hr hlocks hw ((if_pos c1).trans rfl) rfl dX4_sensorAt_41
  · refine lv_iload_n hx hb dX4_sensorAt_4 rfl (lv_at hl 1 rfl) ?_
    refine lv_aload_n hx hb dX4_sensorAt_5 rfl (lv_at hl 0 rfl) ?_
    refine g_f hw hf (lt_iS hj) (c_iS E _ hj) rfl inlX4 1 (by decide) rfl q138 rfl dX4_sensorAt_6 ?_
    refine lv_icmp_ge (tgt := 25) hx hb dX4_sensorAt_9 (by decide) (fun c3 => ?_) (fun c3 => ?_)
    · refine lv_iconst (v := 0) hx hb dX4_sensorAt_25 (by decide) ?_
      refine lv_istore_n (lv' := [(2, .int 0), (0, .ref (E.1 (iS j))), (1, .int (w))]) hx hb dX4_sensorAt_26 rfl hl (by decide) rfl (fun ls hl => ?_)
      refine lv_iload_n hx hb dX4_sensorAt_27 rfl (lv_at hl 0 rfl) ?_
      refine lv_if_eq (tgt := 40) hx hb dX4_sensorAt_28 (by decide) (fun _ => ?_) (fun c => absurd c (by decide))
      refine lv_null hx hb dX4_sensorAt_40 ?_
      exact e_q (o' := none) hf hr hlocks hw ((if_neg c1).trans ((if_pos c3).trans rfl)) rfl dX4_sensorAt_41
    · refine lv_iload_n hx hb dX4_sensorAt_12 rfl (lv_at hl 1 rfl) ?_
      refine lv_aload_n hx hb dX4_sensorAt_13 rfl (lv_at hl 0 rfl) ?_
      refine g_f hw hf (lt_iS hj) (c_iS E _ hj) rfl inlX4 4 (by decide) rfl q51 rfl dX4_sensorAt_14 ?_
      refine g_n hw hf (lt_iSs hj) (c_iSs E _ hj) (t0 := 3) (v := 6) rfl rfl dX4_sensorAt_17 ?_
      refine lv_icmp_ge (tgt := 25) hx hb dX4_sensorAt_18 (by decide) (fun c5 => ?_) (fun c5 => ?_)
      · refine lv_iconst (v := 0) hx hb dX4_sensorAt_25 (by decide) ?_
        refine lv_istore_n (lv' := [(2, .int 0), (0, .ref (E.1 (iS j))), (1, .int (w))]) hx hb dX4_sensorAt_26 rfl hl (by decide) rfl (fun ls hl => ?_)
        refine lv_iload_n hx hb dX4_sensorAt_27 rfl (lv_at hl 0 rfl) ?_
        refine lv_if_eq (tgt := 40) hx hb dX4_sensorAt_28 (by decide) (fun _ => ?_) (fun c => absurd c (by decide))
        refine lv_null hx hb dX4_sensorAt_40 ?_
        exact e_q (o' := none) hf hr hlocks hw ((if_neg c1).trans ((if_neg c3).trans ((if_pos c5).trans rfl))) rfl dX4_sensorAt_41
      · refine lv_iconst (v := 1) hx hb dX4_sensorAt_21 (by decide) ?_
        refine lv_goto (tgt := 26) hx hb dX4_sensorAt_22 (by decide) ?_
        refine lv_istore_n (lv' := [(2, .int 1), (0, .ref (E.1 (iS j))), (1, .int (w))]) hx hb dX4_sensorAt_26 rfl hl (by decide) rfl (fun ls hl => ?_)
        refine lv_iload_n hx hb dX4_sensorAt_27 rfl (lv_at hl 0 rfl) ?_
        refine lv_if_eq (tgt := 40) hx hb dX4_sensorAt_28 (by decide) (fun c => absurd c (by decide)) (fun _ => ?_)
        refine lv_aload_n hx hb dX4_sensorAt_31 rfl (lv_at hl 1 rfl) ?_
        refine g_f hw hf (lt_iS hj) (c_iS E _ hj) rfl inlX4 4 (by decide) rfl q51 rfl dX4_sensorAt_32 ?_
        refine lv_iload_n hx hb dX4_sensorAt_35 rfl (lv_at hl 2 rfl) ?_
        refine g_q hw hf (lt_iSs hj) (c_iSs E _ hj) (t0 := 3) rfl (vin 6 6 (by decide) (by decide) rfl c1 c5) (rf_N (y := w.toNatClampNeg) (vin_lt (vin 6 6 (by decide) (by decide) rfl c1 c5)) rfl) dX4_sensorAt_36 ?_
        refine lv_goto (tgt := 41) hx hb dX4_sensorAt_37 (by decide) ?_
        exact e_q (o' := some w.toNatClampNeg) hf hr hlocks hw ((if_neg c1).trans ((if_neg c3).trans ((if_neg c5).trans rfl))) rfl dX4_sensorAt_41
theorem b_X4_sensorAt {g : Nat → Int32} {w : Int32} {t : Nat} (h : sp_X4_sensorAt g w = some t) : t < 6 := by
  unfold sp_X4_sensorAt at h
  split at h
  · exact absurd h (by simp)
  · split at h
    · exact absurd h (by simp)
    · split at h
      · exact absurd h (by simp)
      · rename_i h1 h2 h3
        cases h
        exact vin_lt (vin 6 6 (by decide) (by decide) rfl h1 h3)
def sp_X4_setting (g : Nat → Int32)  (w : Int32) : Int32 :=
  if (w : Int32) < 0 then
    0
  else
    if (7 : Int32) ≤ w then
      0
    else
      g (3 + w.toNatClampNeg)
set_option maxHeartbeats 4000000 in
set_option maxRecDepth 100000 in
theorem k_X4_setting (l : Launch) (E : En) (μ : Mu) {j : Nat} (hj : j < 6) (w : Int32)  : MtI l yX4_setting cX4_setting 2 .int ({ frames := 0, cells := 0, slots := 0, locals := 0 }) [.ref (E.1 (iS j)), .int (w)] E μ ((sp_X4_setting (μ.1 j) w), μ) := by
  refine mt_of (by decide +kernel) (Nat.le_of_ble_eq_true rfl) ?_
  intro p e s m args below meth c ls hf hr hlocks hl hw
  have hx := hf.1
  have hb := hf.2.1
  have hl : lv_has ls 2 [(0, .ref (E.1 (iS j))), (1, .int (w))] := hl
  refine lv_iload_n hx hb dX4_setting_0 rfl (lv_at hl 1 rfl) ?_
  refine lv_if_lt (tgt := 22) hx hb dX4_setting_1 (by decide) (fun c1 => ?_) (fun c1 => ?_)
  · refine lv_iconst (v := 0) hx hb dX4_setting_22 (by decide) ?_
    exact e_i hf hr hlocks hw rfl (congrArg (fun z => (z, μ)) ((if_pos c1).trans rfl)) dX4_setting_23
  · refine lv_iload_n hx hb dX4_setting_4 rfl (lv_at hl 1 rfl) ?_
    refine lv_aload_n hx hb dX4_setting_5 rfl (lv_at hl 0 rfl) ?_
    refine g_f hw hf (lt_iS hj) (c_iS E _ hj) rfl inlX4 5 (by decide) rfl q52 rfl dX4_setting_6 ?_
    refine g_n hw hf (lt_iSe hj) (c_iSe E _ hj) (t0 := 0) (v := 7) rfl rfl dX4_setting_9 ?_
    refine lv_icmp_ge (tgt := 22) hx hb dX4_setting_10 (by decide) (fun c2 => ?_) (fun c2 => ?_)
    · refine lv_iconst (v := 0) hx hb dX4_setting_22 (by decide) ?_
      exact e_i hf hr hlocks hw rfl (congrArg (fun z => (z, μ)) ((if_neg c1).trans ((if_pos c2).trans rfl))) dX4_setting_23
    · refine lv_aload_n hx hb dX4_setting_13 rfl (lv_at hl 0 rfl) ?_
      refine g_f hw hf (lt_iS hj) (c_iS E _ hj) rfl inlX4 5 (by decide) rfl q52 rfl dX4_setting_14 ?_
      refine lv_iload_n hx hb dX4_setting_17 rfl (lv_at hl 1 rfl) ?_
      refine g_a hw hf (lt_iSe hj) (c_iSe E _ hj) (vin 7 7 (by decide) (by decide) rfl c1 c2) (tr_at (y := w.toNatClampNeg) (vin_lt (vin 7 7 (by decide) (by decide) rfl c1 c2)) rfl) dX4_setting_18 ?_
      refine lv_goto (tgt := 23) hx hb dX4_setting_19 (by decide) ?_
      exact e_i hf hr hlocks hw rfl (congrArg (fun z => (z, μ)) ((if_neg c1).trans ((if_neg c2).trans rfl))) dX4_setting_23
def sp_X4_changeSetting (μ : Mu) (j : Nat) (w : Int32) (v : Int32) : Mu :=
  if (w : Int32) < 0 then
    μ
  else
    if (7 : Int32) ≤ w then
      μ
    else
      pM μ j (3 + w.toNatClampNeg) v
set_option maxHeartbeats 4000000 in
set_option maxRecDepth 100000 in
theorem k_X4_changeSetting (l : Launch) (E : En) (μ : Mu) {j : Nat} (hj : j < 6) (w : Int32) (v : Int32)  : MtV l yX4_changeSetting cX4_changeSetting 3 ({ frames := 0, cells := 0, slots := 0, locals := 0 }) [.ref (E.1 (iS j)), .int (w), .int (v)] E μ (sp_X4_changeSetting μ j w v) := by
  refine mt_of (by decide +kernel) (Nat.le_of_ble_eq_true rfl) ?_
  intro p e s m args below meth c ls hf hr hlocks hl hw
  have hx := hf.1
  have hb := hf.2.1
  have hl : lv_has ls 3 [(0, .ref (E.1 (iS j))), (1, .int (w)), (2, .int (v))] := hl
  refine lv_iload_n hx hb dX4_changeSetting_0 rfl (lv_at hl 1 rfl) ?_
  refine lv_if_lt (tgt := 20) hx hb dX4_changeSetting_1 (by decide) (fun c1 => ?_) (fun c1 => ?_)
  · exact e_v hf hr hlocks hw ((if_pos c1).trans rfl) dX4_changeSetting_20
  · refine lv_iload_n hx hb dX4_changeSetting_4 rfl (lv_at hl 1 rfl) ?_
    refine lv_aload_n hx hb dX4_changeSetting_5 rfl (lv_at hl 0 rfl) ?_
    refine g_f hw hf (lt_iS hj) (c_iS E _ hj) rfl inlX4 5 (by decide) rfl q52 rfl dX4_changeSetting_6 ?_
    refine g_n hw hf (lt_iSe hj) (c_iSe E _ hj) (t0 := 0) (v := 7) rfl rfl dX4_changeSetting_9 ?_
    refine lv_icmp_ge (tgt := 20) hx hb dX4_changeSetting_10 (by decide) (fun c2 => ?_) (fun c2 => ?_)
    · exact e_v hf hr hlocks hw ((if_neg c1).trans ((if_pos c2).trans rfl)) dX4_changeSetting_20
    · refine lv_aload_n hx hb dX4_changeSetting_13 rfl (lv_at hl 0 rfl) ?_
      refine g_f hw hf (lt_iS hj) (c_iS E _ hj) rfl inlX4 5 (by decide) rfl q52 rfl dX4_changeSetting_14 ?_
      refine lv_iload_n hx hb dX4_changeSetting_17 rfl (lv_at hl 1 rfl) ?_
      refine lv_iload_n hx hb dX4_changeSetting_18 rfl (lv_at hl 2 rfl) ?_
      refine p_a hw hf (lt_iSe hj) (c_iSe E _ hj) (vin 7 7 (by decide) (by decide) rfl c1 c2) (s_iSe E _ hj (vin_lt (vin 7 7 (by decide) (by decide) rfl c1 c2)) _) dX4_changeSetting_19 (fun H locs hw => ?_)
      exact e_v hf hr hlocks hw ((if_neg c1).trans ((if_neg c2).trans rfl)) dX4_changeSetting_20
def lp_X4_hasSensorOf_2 (g : Nat → Int32)  (w : Int32) : Nat → Nat → Int32
  | 0, _ => 0
  | f + 1, k =>
    if (g 1 : Int32) ≤ nI k then
      0
    else
      if (6 : Int32) ≤ nI k then
        0
      else
        if (g (sF k 0) : Int32) = w then
          1
        else
          lp_X4_hasSensorOf_2 g w f (k + 1)
def sp_X4_hasSensorOf (g : Nat → Int32)  (w : Int32) : Int32 :=
  lp_X4_hasSensorOf_2 g w 7 0
set_option maxHeartbeats 4000000 in
set_option maxRecDepth 100000 in
theorem k_X4_hasSensorOf (l : Launch) (E : En) (μ : Mu) {j : Nat} (hj : j < 6) (w : Int32)  : MtI l yX4_hasSensorOf cX4_hasSensorOf 3 .boolean ({ frames := 0, cells := 0, slots := 0, locals := 0 }) [.ref (E.1 (iS j)), .int (w)] E μ ((sp_X4_hasSensorOf (μ.1 j) w), μ) := by
  refine mt_of (by decide +kernel) (Nat.le_of_ble_eq_true rfl) ?_
  intro p e s m args below meth c ls hf hr hlocks hl hw
  have hx := hf.1
  have hb := hf.2.1
  have hl : lv_has ls 3 [(0, .ref (E.1 (iS j))), (1, .int (w))] := hl
  refine lv_iconst (v := 0) hx hb dX4_hasSensorOf_0 (by decide) ?_
  refine lv_istore_n (lv' := [(2, .int 0), (0, .ref (E.1 (iS j))), (1, .int (w))]) hx hb dX4_hasSensorOf_1 rfl hl (by decide) rfl (fun ls hl => ?_)
  have key_2 : ∀ (f : Nat) (k : Nat), k + f = 7 → k ≤ 6 → sp_X4_hasSensorOf (μ.1 j) w = lp_X4_hasSensorOf_2 (μ.1 j) w f k → ∀ (ls : Array Slot) (H : Heap) (locs : List Loc), lv_has ls 3 [(0, .ref (E.1 (iS j))), (1, .int (w)), (2, .int (nI k))] → Wk E μ s H locs → W p l e ({ frames := 0, cells := 0, slots := 0, locals := 0 }) s m args below meth c H locs 0 0 (MQ below (va_Qi (fun r u => r = ((sp_X4_hasSensorOf (μ.1 j) w, μ)).1 ∧ u = ((sp_X4_hasSensorOf (μ.1 j) w, μ)).2) (fun u t => WdU E u t) (inE E)) args s 0 0 (inE E)) (F0 m 2 ls []) := by
    intro f
    induction f with
    | zero => intro k h1 h2 hq ls H locs hl hw; exfalso; omega
    | succ f ih =>
      intro k h1 h2 hq ls H locs hl hw
      refine lv_iload_n hx hb dX4_hasSensorOf_2 rfl (lv_at hl 2 rfl) ?_
      refine lv_aload_n hx hb dX4_hasSensorOf_3 rfl (lv_at hl 0 rfl) ?_
      refine g_f hw hf (lt_iS hj) (c_iS E _ hj) rfl inlX4 1 (by decide) rfl q138 rfl dX4_hasSensorOf_4 ?_
      refine lv_icmp_ge (tgt := 40) hx hb dX4_hasSensorOf_7 (by decide) (fun c1 => ?_) (fun c1 => ?_)
      · refine lv_iconst (v := 0) hx hb dX4_hasSensorOf_40 (by decide) ?_
        exact e_i hf hr hlocks hw rfl (congrArg (fun z => (z, μ)) ((hq).trans ((if_pos c1).trans rfl))) dX4_hasSensorOf_41
      · refine lv_iload_n hx hb dX4_hasSensorOf_10 rfl (lv_at hl 2 rfl) ?_
        refine lv_aload_n hx hb dX4_hasSensorOf_11 rfl (lv_at hl 0 rfl) ?_
        refine g_f hw hf (lt_iS hj) (c_iS E _ hj) rfl inlX4 4 (by decide) rfl q51 rfl dX4_hasSensorOf_12 ?_
        refine g_n hw hf (lt_iSs hj) (c_iSs E _ hj) (t0 := 3) (v := 6) rfl rfl dX4_hasSensorOf_15 ?_
        refine lv_icmp_ge (tgt := 40) hx hb dX4_hasSensorOf_16 (by decide) (fun c2 => ?_) (fun c2 => ?_)
        · have c2n : 6 ≤ k := by have q := (nI_leI (a := 6) (b := k) (by omega) (by omega)); first | exact q.mp c2 | exact fun z => c2 (q.mpr z)
          refine lv_iconst (v := 0) hx hb dX4_hasSensorOf_40 (by decide) ?_
          exact e_i hf hr hlocks hw rfl (congrArg (fun z => (z, μ)) ((hq).trans ((if_neg c1).trans ((if_pos c2).trans rfl)))) dX4_hasSensorOf_41
        · have c2n : ¬ 6 ≤ k := by have q := (nI_leI (a := 6) (b := k) (by omega) (by omega)); first | exact q.mp c2 | exact fun z => c2 (q.mpr z)
          refine lv_aload_n hx hb dX4_hasSensorOf_19 rfl (lv_at hl 0 rfl) ?_
          refine g_f hw hf (lt_iS hj) (c_iS E _ hj) rfl inlX4 4 (by decide) rfl q51 rfl dX4_hasSensorOf_20 ?_
          refine lv_iload_n hx hb dX4_hasSensorOf_23 rfl (lv_at hl 2 rfl) ?_
          refine g_q hw hf (lt_iSs hj) (c_iSs E _ hj) (t0 := 3) rfl (vp_in_nI (show k < 6 from (by omega)) (by decide)) (rf_N (y := k) (by omega) (nI_clamp (Nat.lt_trans (show k < 6 from (by omega)) (by decide)))) dX4_hasSensorOf_24 ?_
          refine g_f hw hf (lt_iN hj (by omega)) (c_iN E _ hj (by omega)) rfl inlX3 0 (by decide) rfl q434 rfl dX4_hasSensorOf_25 ?_
          refine lv_iload_n hx hb dX4_hasSensorOf_28 rfl (lv_at hl 1 rfl) ?_
          refine lv_icmp_ne (tgt := 34) hx hb dX4_hasSensorOf_29 (by decide) (fun c3 => ?_) (fun c3 => ?_)
          · refine lv_iinc (v := nI (k + 1)) (lv' := [(2, .int (nI (k + 1))), (0, .ref (E.1 (iS j))), (1, .int (w))]) hx hb dX4_hasSensorOf_34 hl (k := 2) rfl (nI_1 _) (by decide) rfl (fun ls hl => ?_)
            refine lv_goto (tgt := 2) hx hb dX4_hasSensorOf_37 (by decide) ?_
            exact ih (k + 1) (by omega) (by omega) (((hq).trans ((if_neg c1).trans ((if_neg c2).trans ((if_neg c3).trans rfl))))) _ _ _ (lv_sub hl [1, 2, 0] rfl) hw
          · refine lv_iconst (v := 1) hx hb dX4_hasSensorOf_32 (by decide) ?_
            exact e_i hf hr hlocks hw rfl (congrArg (fun z => (z, μ)) ((hq).trans ((if_neg c1).trans ((if_neg c2).trans ((if_pos c3).trans rfl))))) dX4_hasSensorOf_33
  exact key_2 7 0 (by omega) (by omega) (rfl) _ _ _ (lv_sub hl [1, 2, 0] rfl) hw
def lp_X4_sensorIn_2 (g : Nat → Int32)  (w : Int32) : Nat → Nat → Int32
  | 0, _ => 0
  | f + 1, k =>
    if (g 1 : Int32) ≤ nI k then
      (-1)
    else
      if (6 : Int32) ≤ nI k then
        (-1)
      else
        if (g (sF k 6) : Int32) = w then
          nI k
        else
          lp_X4_sensorIn_2 g w f (k + 1)
def sp_X4_sensorIn (g : Nat → Int32)  (w : Int32) : Int32 :=
  lp_X4_sensorIn_2 g w 7 0
set_option maxHeartbeats 4000000 in
set_option maxRecDepth 100000 in
theorem k_X4_sensorIn (l : Launch) (E : En) (μ : Mu) {j : Nat} (hj : j < 6) (w : Int32)  : MtI l yX4_sensorIn cX4_sensorIn 3 .int ({ frames := 0, cells := 0, slots := 0, locals := 0 }) [.ref (E.1 (iS j)), .int (w)] E μ ((sp_X4_sensorIn (μ.1 j) w), μ) := by
  refine mt_of (by decide +kernel) (Nat.le_of_ble_eq_true rfl) ?_
  intro p e s m args below meth c ls hf hr hlocks hl hw
  have hx := hf.1
  have hb := hf.2.1
  have hl : lv_has ls 3 [(0, .ref (E.1 (iS j))), (1, .int (w))] := hl
  refine lv_iconst (v := 0) hx hb dX4_sensorIn_0 (by decide) ?_
  refine lv_istore_n (lv' := [(2, .int 0), (0, .ref (E.1 (iS j))), (1, .int (w))]) hx hb dX4_sensorIn_1 rfl hl (by decide) rfl (fun ls hl => ?_)
  have key_2 : ∀ (f : Nat) (k : Nat), k + f = 7 → k ≤ 6 → sp_X4_sensorIn (μ.1 j) w = lp_X4_sensorIn_2 (μ.1 j) w f k → ∀ (ls : Array Slot) (H : Heap) (locs : List Loc), lv_has ls 3 [(0, .ref (E.1 (iS j))), (1, .int (w)), (2, .int (nI k))] → Wk E μ s H locs → W p l e ({ frames := 0, cells := 0, slots := 0, locals := 0 }) s m args below meth c H locs 0 0 (MQ below (va_Qi (fun r u => r = ((sp_X4_sensorIn (μ.1 j) w, μ)).1 ∧ u = ((sp_X4_sensorIn (μ.1 j) w, μ)).2) (fun u t => WdU E u t) (inE E)) args s 0 0 (inE E)) (F0 m 2 ls []) := by
    intro f
    induction f with
    | zero => intro k h1 h2 hq ls H locs hl hw; exfalso; omega
    | succ f ih =>
      intro k h1 h2 hq ls H locs hl hw
      refine lv_iload_n hx hb dX4_sensorIn_2 rfl (lv_at hl 2 rfl) ?_
      refine lv_aload_n hx hb dX4_sensorIn_3 rfl (lv_at hl 0 rfl) ?_
      refine g_f hw hf (lt_iS hj) (c_iS E _ hj) rfl inlX4 1 (by decide) rfl q138 rfl dX4_sensorIn_4 ?_
      refine lv_icmp_ge (tgt := 40) hx hb dX4_sensorIn_7 (by decide) (fun c1 => ?_) (fun c1 => ?_)
      · refine lv_iconst (v := (-1)) hx hb dX4_sensorIn_40 (by decide) ?_
        exact e_i hf hr hlocks hw rfl (congrArg (fun z => (z, μ)) ((hq).trans ((if_pos c1).trans rfl))) dX4_sensorIn_41
      · refine lv_iload_n hx hb dX4_sensorIn_10 rfl (lv_at hl 2 rfl) ?_
        refine lv_aload_n hx hb dX4_sensorIn_11 rfl (lv_at hl 0 rfl) ?_
        refine g_f hw hf (lt_iS hj) (c_iS E _ hj) rfl inlX4 4 (by decide) rfl q51 rfl dX4_sensorIn_12 ?_
        refine g_n hw hf (lt_iSs hj) (c_iSs E _ hj) (t0 := 3) (v := 6) rfl rfl dX4_sensorIn_15 ?_
        refine lv_icmp_ge (tgt := 40) hx hb dX4_sensorIn_16 (by decide) (fun c2 => ?_) (fun c2 => ?_)
        · have c2n : 6 ≤ k := by have q := (nI_leI (a := 6) (b := k) (by omega) (by omega)); first | exact q.mp c2 | exact fun z => c2 (q.mpr z)
          refine lv_iconst (v := (-1)) hx hb dX4_sensorIn_40 (by decide) ?_
          exact e_i hf hr hlocks hw rfl (congrArg (fun z => (z, μ)) ((hq).trans ((if_neg c1).trans ((if_pos c2).trans rfl)))) dX4_sensorIn_41
        · have c2n : ¬ 6 ≤ k := by have q := (nI_leI (a := 6) (b := k) (by omega) (by omega)); first | exact q.mp c2 | exact fun z => c2 (q.mpr z)
          refine lv_aload_n hx hb dX4_sensorIn_19 rfl (lv_at hl 0 rfl) ?_
          refine g_f hw hf (lt_iS hj) (c_iS E _ hj) rfl inlX4 4 (by decide) rfl q51 rfl dX4_sensorIn_20 ?_
          refine lv_iload_n hx hb dX4_sensorIn_23 rfl (lv_at hl 2 rfl) ?_
          refine g_q hw hf (lt_iSs hj) (c_iSs E _ hj) (t0 := 3) rfl (vp_in_nI (show k < 6 from (by omega)) (by decide)) (rf_N (y := k) (by omega) (nI_clamp (Nat.lt_trans (show k < 6 from (by omega)) (by decide)))) dX4_sensorIn_24 ?_
          refine g_f hw hf (lt_iN hj (by omega)) (c_iN E _ hj (by omega)) rfl inlX3 6 (by decide) rfl q139 rfl dX4_sensorIn_25 ?_
          refine lv_iload_n hx hb dX4_sensorIn_28 rfl (lv_at hl 1 rfl) ?_
          refine lv_icmp_ne (tgt := 34) hx hb dX4_sensorIn_29 (by decide) (fun c3 => ?_) (fun c3 => ?_)
          · refine lv_iinc (v := nI (k + 1)) (lv' := [(2, .int (nI (k + 1))), (0, .ref (E.1 (iS j))), (1, .int (w))]) hx hb dX4_sensorIn_34 hl (k := 2) rfl (nI_1 _) (by decide) rfl (fun ls hl => ?_)
            refine lv_goto (tgt := 2) hx hb dX4_sensorIn_37 (by decide) ?_
            exact ih (k + 1) (by omega) (by omega) (((hq).trans ((if_neg c1).trans ((if_neg c2).trans ((if_neg c3).trans rfl))))) _ _ _ (lv_sub hl [1, 2, 0] rfl) hw
          · refine lv_iload_n hx hb dX4_sensorIn_32 rfl (lv_at hl 2 rfl) ?_
            exact e_i hf hr hlocks hw rfl (congrArg (fun z => (z, μ)) ((hq).trans ((if_neg c1).trans ((if_neg c2).trans ((if_pos c3).trans rfl))))) dX4_sensorIn_33
  exact key_2 7 0 (by omega) (by omega) (rfl) _ _ _ (lv_sub hl [1, 2, 0] rfl) hw
def sp_X4_takenSlots (g : Nat → Int32)  (w : Int32) : Int32 :=
  if (sp_X4_sensorIn g  ((w * 3) + 0) : Int32) = (-1) then
    if (sp_X4_sensorIn g  ((w * 3) + 1) : Int32) = (-1) then
      if (sp_X4_sensorIn g  ((w * 3) + 2) : Int32) = (-1) then
        0
      else
        1
    else
      if (sp_X4_sensorIn g  ((w * 3) + 2) : Int32) = (-1) then
        1
      else
        2
  else
    if (sp_X4_sensorIn g  ((w * 3) + 1) : Int32) = (-1) then
      if (sp_X4_sensorIn g  ((w * 3) + 2) : Int32) = (-1) then
        1
      else
        2
    else
      if (sp_X4_sensorIn g  ((w * 3) + 2) : Int32) = (-1) then
        2
      else
        3
set_option maxHeartbeats 4000000 in
set_option maxRecDepth 100000 in
theorem k_X4_takenSlots (l : Launch) (E : En) (μ : Mu) {j : Nat} (hj : j < 6) (w : Int32)  : MtI l yX4_takenSlots cX4_takenSlots 4 .int ({ frames := 1, cells := 0, slots := 0, locals := 22 }) [.ref (E.1 (iS j)), .int (w)] E μ ((sp_X4_takenSlots (μ.1 j) w), μ) := by
  refine mt_of (by decide +kernel) (Nat.le_of_ble_eq_true rfl) ?_
  intro p e s m args below meth c ls hf hr hlocks hl hw
  have hx := hf.1
  have hb := hf.2.1
  have hl : lv_has ls 4 [(0, .ref (E.1 (iS j))), (1, .int (w))] := hl
  refine lv_iconst (v := 0) hx hb dX4_takenSlots_0 (by decide) ?_
  refine lv_istore_n (lv' := [(2, .int 0), (0, .ref (E.1 (iS j))), (1, .int (w))]) hx hb dX4_takenSlots_1 rfl hl (by decide) rfl (fun ls hl => ?_)
  refine lv_iconst (v := 0) hx hb dX4_takenSlots_2 (by decide) ?_
  refine lv_istore_n (lv' := [(3, .int 0), (2, .int 0), (0, .ref (E.1 (iS j))), (1, .int (w))]) hx hb dX4_takenSlots_3 rfl hl (by decide) rfl (fun ls hl => ?_)
  refine lv_iload_n hx hb dX4_takenSlots_4 rfl (lv_at hl 0 rfl) ?_
  refine lv_iconst (v := 3) hx hb dX4_takenSlots_5 (by decide) ?_
  refine lv_icmp_ge (tgt := 31) hx hb dX4_takenSlots_6 (by decide) (fun c => absurd c (by decide)) (fun _ => ?_)
  refine lv_aload_n hx hb dX4_takenSlots_9 rfl (lv_at hl 2 rfl) ?_
  refine lv_iload_n hx hb dX4_takenSlots_10 rfl (lv_at hl 3 rfl) ?_
  refine lv_iconst (v := 3) hx hb dX4_takenSlots_11 (by decide) ?_
  refine lv_imul hx hb dX4_takenSlots_12 ?_
  refine lv_iload_n hx hb dX4_takenSlots_13 rfl (lv_at hl 0 rfl) ?_
  refine lv_iadd hx hb dX4_takenSlots_14 ?_
  refine c_iR hw (run_V (As := [.int ((w * 3) + 0)]) (rest := []) (np := 1) hf hw (k_X4_sensorIn l E _ hj ((w * 3) + 0)  ) ⟨gl_V q134 q135 q136 q22 q137, by decide +kernel⟩ ⟨rfl, rfl, Nat.le_of_ble_eq_true rfl, Nat.le_of_ble_eq_true rfl⟩ (lt_iS hj) (c_iS E _ hj) rfl rfl hl.1 rfl (Nat.le_of_ble_eq_true rfl) dX4_takenSlots_15 ⟨Nat.zero_le _, Nat.zero_le _⟩) (fun H locs hw => ?_)
  refine lv_iconst (v := (-1)) hx hb dX4_takenSlots_18 (by decide) ?_
  refine lv_icmp_eq (tgt := 25) hx hb dX4_takenSlots_19 (by decide) (fun c2 => ?_) (fun c2 => ?_)
  · refine lv_iinc (v := 1) (lv' := [(3, .int 1), (2, .int 0), (0, .ref (E.1 (iS j))), (1, .int (w))]) hx hb dX4_takenSlots_25 hl (k := 0) rfl (by decide) (by decide) rfl (fun ls hl => ?_)
    refine lv_goto (tgt := 4) hx hb dX4_takenSlots_28 (by decide) ?_
    refine lv_iload_n hx hb dX4_takenSlots_4 rfl (lv_at hl 0 rfl) ?_
    refine lv_iconst (v := 3) hx hb dX4_takenSlots_5 (by decide) ?_
    refine lv_icmp_ge (tgt := 31) hx hb dX4_takenSlots_6 (by decide) (fun c => absurd c (by decide)) (fun _ => ?_)
    refine lv_aload_n hx hb dX4_takenSlots_9 rfl (lv_at hl 2 rfl) ?_
    refine lv_iload_n hx hb dX4_takenSlots_10 rfl (lv_at hl 3 rfl) ?_
    refine lv_iconst (v := 3) hx hb dX4_takenSlots_11 (by decide) ?_
    refine lv_imul hx hb dX4_takenSlots_12 ?_
    refine lv_iload_n hx hb dX4_takenSlots_13 rfl (lv_at hl 0 rfl) ?_
    refine lv_iadd hx hb dX4_takenSlots_14 ?_
    refine c_iR hw (run_V (As := [.int ((w * 3) + 1)]) (rest := []) (np := 1) hf hw (k_X4_sensorIn l E _ hj ((w * 3) + 1)  ) ⟨gl_V q134 q135 q136 q22 q137, by decide +kernel⟩ ⟨rfl, rfl, Nat.le_of_ble_eq_true rfl, Nat.le_of_ble_eq_true rfl⟩ (lt_iS hj) (c_iS E _ hj) rfl rfl hl.1 rfl (Nat.le_of_ble_eq_true rfl) dX4_takenSlots_15 ⟨Nat.zero_le _, Nat.zero_le _⟩) (fun H locs hw => ?_)
    refine lv_iconst (v := (-1)) hx hb dX4_takenSlots_18 (by decide) ?_
    refine lv_icmp_eq (tgt := 25) hx hb dX4_takenSlots_19 (by decide) (fun c4 => ?_) (fun c4 => ?_)
    · refine lv_iinc (v := 2) (lv' := [(3, .int 2), (2, .int 0), (0, .ref (E.1 (iS j))), (1, .int (w))]) hx hb dX4_takenSlots_25 hl (k := 0) rfl (by decide) (by decide) rfl (fun ls hl => ?_)
      refine lv_goto (tgt := 4) hx hb dX4_takenSlots_28 (by decide) ?_
      refine lv_iload_n hx hb dX4_takenSlots_4 rfl (lv_at hl 0 rfl) ?_
      refine lv_iconst (v := 3) hx hb dX4_takenSlots_5 (by decide) ?_
      refine lv_icmp_ge (tgt := 31) hx hb dX4_takenSlots_6 (by decide) (fun c => absurd c (by decide)) (fun _ => ?_)
      refine lv_aload_n hx hb dX4_takenSlots_9 rfl (lv_at hl 2 rfl) ?_
      refine lv_iload_n hx hb dX4_takenSlots_10 rfl (lv_at hl 3 rfl) ?_
      refine lv_iconst (v := 3) hx hb dX4_takenSlots_11 (by decide) ?_
      refine lv_imul hx hb dX4_takenSlots_12 ?_
      refine lv_iload_n hx hb dX4_takenSlots_13 rfl (lv_at hl 0 rfl) ?_
      refine lv_iadd hx hb dX4_takenSlots_14 ?_
      refine c_iR hw (run_V (As := [.int ((w * 3) + 2)]) (rest := []) (np := 1) hf hw (k_X4_sensorIn l E _ hj ((w * 3) + 2)  ) ⟨gl_V q134 q135 q136 q22 q137, by decide +kernel⟩ ⟨rfl, rfl, Nat.le_of_ble_eq_true rfl, Nat.le_of_ble_eq_true rfl⟩ (lt_iS hj) (c_iS E _ hj) rfl rfl hl.1 rfl (Nat.le_of_ble_eq_true rfl) dX4_takenSlots_15 ⟨Nat.zero_le _, Nat.zero_le _⟩) (fun H locs hw => ?_)
      refine lv_iconst (v := (-1)) hx hb dX4_takenSlots_18 (by decide) ?_
      refine lv_icmp_eq (tgt := 25) hx hb dX4_takenSlots_19 (by decide) (fun c6 => ?_) (fun c6 => ?_)
      · refine lv_iinc (v := 3) (lv' := [(3, .int 3), (2, .int 0), (0, .ref (E.1 (iS j))), (1, .int (w))]) hx hb dX4_takenSlots_25 hl (k := 0) rfl (by decide) (by decide) rfl (fun ls hl => ?_)
        refine lv_goto (tgt := 4) hx hb dX4_takenSlots_28 (by decide) ?_
        refine lv_iload_n hx hb dX4_takenSlots_4 rfl (lv_at hl 0 rfl) ?_
        refine lv_iconst (v := 3) hx hb dX4_takenSlots_5 (by decide) ?_
        refine lv_icmp_ge (tgt := 31) hx hb dX4_takenSlots_6 (by decide) (fun _ => ?_) (fun c => absurd c (by decide))
        refine lv_iload_n hx hb dX4_takenSlots_31 rfl (lv_at hl 1 rfl) ?_
        exact e_i hf hr hlocks hw rfl (congrArg (fun z => (z, μ)) ((if_pos c2).trans ((if_pos c4).trans ((if_pos c6).trans rfl)))) dX4_takenSlots_32
      · refine lv_iinc (v := 1) (lv' := [(2, .int 1), (3, .int 2), (0, .ref (E.1 (iS j))), (1, .int (w))]) hx hb dX4_takenSlots_22 hl (k := 1) rfl (by decide) (by decide) rfl (fun ls hl => ?_)
        refine lv_iinc (v := 3) (lv' := [(3, .int 3), (2, .int 1), (0, .ref (E.1 (iS j))), (1, .int (w))]) hx hb dX4_takenSlots_25 hl (k := 1) rfl (by decide) (by decide) rfl (fun ls hl => ?_)
        refine lv_goto (tgt := 4) hx hb dX4_takenSlots_28 (by decide) ?_
        refine lv_iload_n hx hb dX4_takenSlots_4 rfl (lv_at hl 0 rfl) ?_
        refine lv_iconst (v := 3) hx hb dX4_takenSlots_5 (by decide) ?_
        refine lv_icmp_ge (tgt := 31) hx hb dX4_takenSlots_6 (by decide) (fun _ => ?_) (fun c => absurd c (by decide))
        refine lv_iload_n hx hb dX4_takenSlots_31 rfl (lv_at hl 1 rfl) ?_
        exact e_i hf hr hlocks hw rfl (congrArg (fun z => (z, μ)) ((if_pos c2).trans ((if_pos c4).trans ((if_neg c6).trans rfl)))) dX4_takenSlots_32
    · refine lv_iinc (v := 1) (lv' := [(2, .int 1), (3, .int 1), (0, .ref (E.1 (iS j))), (1, .int (w))]) hx hb dX4_takenSlots_22 hl (k := 1) rfl (by decide) (by decide) rfl (fun ls hl => ?_)
      refine lv_iinc (v := 2) (lv' := [(3, .int 2), (2, .int 1), (0, .ref (E.1 (iS j))), (1, .int (w))]) hx hb dX4_takenSlots_25 hl (k := 1) rfl (by decide) (by decide) rfl (fun ls hl => ?_)
      refine lv_goto (tgt := 4) hx hb dX4_takenSlots_28 (by decide) ?_
      refine lv_iload_n hx hb dX4_takenSlots_4 rfl (lv_at hl 0 rfl) ?_
      refine lv_iconst (v := 3) hx hb dX4_takenSlots_5 (by decide) ?_
      refine lv_icmp_ge (tgt := 31) hx hb dX4_takenSlots_6 (by decide) (fun c => absurd c (by decide)) (fun _ => ?_)
      refine lv_aload_n hx hb dX4_takenSlots_9 rfl (lv_at hl 2 rfl) ?_
      refine lv_iload_n hx hb dX4_takenSlots_10 rfl (lv_at hl 3 rfl) ?_
      refine lv_iconst (v := 3) hx hb dX4_takenSlots_11 (by decide) ?_
      refine lv_imul hx hb dX4_takenSlots_12 ?_
      refine lv_iload_n hx hb dX4_takenSlots_13 rfl (lv_at hl 0 rfl) ?_
      refine lv_iadd hx hb dX4_takenSlots_14 ?_
      refine c_iR hw (run_V (As := [.int ((w * 3) + 2)]) (rest := []) (np := 1) hf hw (k_X4_sensorIn l E _ hj ((w * 3) + 2)  ) ⟨gl_V q134 q135 q136 q22 q137, by decide +kernel⟩ ⟨rfl, rfl, Nat.le_of_ble_eq_true rfl, Nat.le_of_ble_eq_true rfl⟩ (lt_iS hj) (c_iS E _ hj) rfl rfl hl.1 rfl (Nat.le_of_ble_eq_true rfl) dX4_takenSlots_15 ⟨Nat.zero_le _, Nat.zero_le _⟩) (fun H locs hw => ?_)
      refine lv_iconst (v := (-1)) hx hb dX4_takenSlots_18 (by decide) ?_
      refine lv_icmp_eq (tgt := 25) hx hb dX4_takenSlots_19 (by decide) (fun c10 => ?_) (fun c10 => ?_)
      · refine lv_iinc (v := 3) (lv' := [(3, .int 3), (2, .int 1), (0, .ref (E.1 (iS j))), (1, .int (w))]) hx hb dX4_takenSlots_25 hl (k := 0) rfl (by decide) (by decide) rfl (fun ls hl => ?_)
        refine lv_goto (tgt := 4) hx hb dX4_takenSlots_28 (by decide) ?_
        refine lv_iload_n hx hb dX4_takenSlots_4 rfl (lv_at hl 0 rfl) ?_
        refine lv_iconst (v := 3) hx hb dX4_takenSlots_5 (by decide) ?_
        refine lv_icmp_ge (tgt := 31) hx hb dX4_takenSlots_6 (by decide) (fun _ => ?_) (fun c => absurd c (by decide))
        refine lv_iload_n hx hb dX4_takenSlots_31 rfl (lv_at hl 1 rfl) ?_
        exact e_i hf hr hlocks hw rfl (congrArg (fun z => (z, μ)) ((if_pos c2).trans ((if_neg c4).trans ((if_pos c10).trans rfl)))) dX4_takenSlots_32
      · refine lv_iinc (v := 2) (lv' := [(2, .int 2), (3, .int 2), (0, .ref (E.1 (iS j))), (1, .int (w))]) hx hb dX4_takenSlots_22 hl (k := 1) rfl (by decide) (by decide) rfl (fun ls hl => ?_)
        refine lv_iinc (v := 3) (lv' := [(3, .int 3), (2, .int 2), (0, .ref (E.1 (iS j))), (1, .int (w))]) hx hb dX4_takenSlots_25 hl (k := 1) rfl (by decide) (by decide) rfl (fun ls hl => ?_)
        refine lv_goto (tgt := 4) hx hb dX4_takenSlots_28 (by decide) ?_
        refine lv_iload_n hx hb dX4_takenSlots_4 rfl (lv_at hl 0 rfl) ?_
        refine lv_iconst (v := 3) hx hb dX4_takenSlots_5 (by decide) ?_
        refine lv_icmp_ge (tgt := 31) hx hb dX4_takenSlots_6 (by decide) (fun _ => ?_) (fun c => absurd c (by decide))
        refine lv_iload_n hx hb dX4_takenSlots_31 rfl (lv_at hl 1 rfl) ?_
        exact e_i hf hr hlocks hw rfl (congrArg (fun z => (z, μ)) ((if_pos c2).trans ((if_neg c4).trans ((if_neg c10).trans rfl)))) dX4_takenSlots_32
  · refine lv_iinc (v := 1) (lv' := [(2, .int 1), (3, .int 0), (0, .ref (E.1 (iS j))), (1, .int (w))]) hx hb dX4_takenSlots_22 hl (k := 1) rfl (by decide) (by decide) rfl (fun ls hl => ?_)
    refine lv_iinc (v := 1) (lv' := [(3, .int 1), (2, .int 1), (0, .ref (E.1 (iS j))), (1, .int (w))]) hx hb dX4_takenSlots_25 hl (k := 1) rfl (by decide) (by decide) rfl (fun ls hl => ?_)
    refine lv_goto (tgt := 4) hx hb dX4_takenSlots_28 (by decide) ?_
    refine lv_iload_n hx hb dX4_takenSlots_4 rfl (lv_at hl 0 rfl) ?_
    refine lv_iconst (v := 3) hx hb dX4_takenSlots_5 (by decide) ?_
    refine lv_icmp_ge (tgt := 31) hx hb dX4_takenSlots_6 (by decide) (fun c => absurd c (by decide)) (fun _ => ?_)
    refine lv_aload_n hx hb dX4_takenSlots_9 rfl (lv_at hl 2 rfl) ?_
    refine lv_iload_n hx hb dX4_takenSlots_10 rfl (lv_at hl 3 rfl) ?_
    refine lv_iconst (v := 3) hx hb dX4_takenSlots_11 (by decide) ?_
    refine lv_imul hx hb dX4_takenSlots_12 ?_
    refine lv_iload_n hx hb dX4_takenSlots_13 rfl (lv_at hl 0 rfl) ?_
    refine lv_iadd hx hb dX4_takenSlots_14 ?_
    refine c_iR hw (run_V (As := [.int ((w * 3) + 1)]) (rest := []) (np := 1) hf hw (k_X4_sensorIn l E _ hj ((w * 3) + 1)  ) ⟨gl_V q134 q135 q136 q22 q137, by decide +kernel⟩ ⟨rfl, rfl, Nat.le_of_ble_eq_true rfl, Nat.le_of_ble_eq_true rfl⟩ (lt_iS hj) (c_iS E _ hj) rfl rfl hl.1 rfl (Nat.le_of_ble_eq_true rfl) dX4_takenSlots_15 ⟨Nat.zero_le _, Nat.zero_le _⟩) (fun H locs hw => ?_)
    refine lv_iconst (v := (-1)) hx hb dX4_takenSlots_18 (by decide) ?_
    refine lv_icmp_eq (tgt := 25) hx hb dX4_takenSlots_19 (by decide) (fun c14 => ?_) (fun c14 => ?_)
    · refine lv_iinc (v := 2) (lv' := [(3, .int 2), (2, .int 1), (0, .ref (E.1 (iS j))), (1, .int (w))]) hx hb dX4_takenSlots_25 hl (k := 0) rfl (by decide) (by decide) rfl (fun ls hl => ?_)
      refine lv_goto (tgt := 4) hx hb dX4_takenSlots_28 (by decide) ?_
      refine lv_iload_n hx hb dX4_takenSlots_4 rfl (lv_at hl 0 rfl) ?_
      refine lv_iconst (v := 3) hx hb dX4_takenSlots_5 (by decide) ?_
      refine lv_icmp_ge (tgt := 31) hx hb dX4_takenSlots_6 (by decide) (fun c => absurd c (by decide)) (fun _ => ?_)
      refine lv_aload_n hx hb dX4_takenSlots_9 rfl (lv_at hl 2 rfl) ?_
      refine lv_iload_n hx hb dX4_takenSlots_10 rfl (lv_at hl 3 rfl) ?_
      refine lv_iconst (v := 3) hx hb dX4_takenSlots_11 (by decide) ?_
      refine lv_imul hx hb dX4_takenSlots_12 ?_
      refine lv_iload_n hx hb dX4_takenSlots_13 rfl (lv_at hl 0 rfl) ?_
      refine lv_iadd hx hb dX4_takenSlots_14 ?_
      refine c_iR hw (run_V (As := [.int ((w * 3) + 2)]) (rest := []) (np := 1) hf hw (k_X4_sensorIn l E _ hj ((w * 3) + 2)  ) ⟨gl_V q134 q135 q136 q22 q137, by decide +kernel⟩ ⟨rfl, rfl, Nat.le_of_ble_eq_true rfl, Nat.le_of_ble_eq_true rfl⟩ (lt_iS hj) (c_iS E _ hj) rfl rfl hl.1 rfl (Nat.le_of_ble_eq_true rfl) dX4_takenSlots_15 ⟨Nat.zero_le _, Nat.zero_le _⟩) (fun H locs hw => ?_)
      refine lv_iconst (v := (-1)) hx hb dX4_takenSlots_18 (by decide) ?_
      refine lv_icmp_eq (tgt := 25) hx hb dX4_takenSlots_19 (by decide) (fun c16 => ?_) (fun c16 => ?_)
      · refine lv_iinc (v := 3) (lv' := [(3, .int 3), (2, .int 1), (0, .ref (E.1 (iS j))), (1, .int (w))]) hx hb dX4_takenSlots_25 hl (k := 0) rfl (by decide) (by decide) rfl (fun ls hl => ?_)
        refine lv_goto (tgt := 4) hx hb dX4_takenSlots_28 (by decide) ?_
        refine lv_iload_n hx hb dX4_takenSlots_4 rfl (lv_at hl 0 rfl) ?_
        refine lv_iconst (v := 3) hx hb dX4_takenSlots_5 (by decide) ?_
        refine lv_icmp_ge (tgt := 31) hx hb dX4_takenSlots_6 (by decide) (fun _ => ?_) (fun c => absurd c (by decide))
        refine lv_iload_n hx hb dX4_takenSlots_31 rfl (lv_at hl 1 rfl) ?_
        exact e_i hf hr hlocks hw rfl (congrArg (fun z => (z, μ)) ((if_neg c2).trans ((if_pos c14).trans ((if_pos c16).trans rfl)))) dX4_takenSlots_32
      · refine lv_iinc (v := 2) (lv' := [(2, .int 2), (3, .int 2), (0, .ref (E.1 (iS j))), (1, .int (w))]) hx hb dX4_takenSlots_22 hl (k := 1) rfl (by decide) (by decide) rfl (fun ls hl => ?_)
        refine lv_iinc (v := 3) (lv' := [(3, .int 3), (2, .int 2), (0, .ref (E.1 (iS j))), (1, .int (w))]) hx hb dX4_takenSlots_25 hl (k := 1) rfl (by decide) (by decide) rfl (fun ls hl => ?_)
        refine lv_goto (tgt := 4) hx hb dX4_takenSlots_28 (by decide) ?_
        refine lv_iload_n hx hb dX4_takenSlots_4 rfl (lv_at hl 0 rfl) ?_
        refine lv_iconst (v := 3) hx hb dX4_takenSlots_5 (by decide) ?_
        refine lv_icmp_ge (tgt := 31) hx hb dX4_takenSlots_6 (by decide) (fun _ => ?_) (fun c => absurd c (by decide))
        refine lv_iload_n hx hb dX4_takenSlots_31 rfl (lv_at hl 1 rfl) ?_
        exact e_i hf hr hlocks hw rfl (congrArg (fun z => (z, μ)) ((if_neg c2).trans ((if_pos c14).trans ((if_neg c16).trans rfl)))) dX4_takenSlots_32
    · refine lv_iinc (v := 2) (lv' := [(2, .int 2), (3, .int 1), (0, .ref (E.1 (iS j))), (1, .int (w))]) hx hb dX4_takenSlots_22 hl (k := 1) rfl (by decide) (by decide) rfl (fun ls hl => ?_)
      refine lv_iinc (v := 2) (lv' := [(3, .int 2), (2, .int 2), (0, .ref (E.1 (iS j))), (1, .int (w))]) hx hb dX4_takenSlots_25 hl (k := 1) rfl (by decide) (by decide) rfl (fun ls hl => ?_)
      refine lv_goto (tgt := 4) hx hb dX4_takenSlots_28 (by decide) ?_
      refine lv_iload_n hx hb dX4_takenSlots_4 rfl (lv_at hl 0 rfl) ?_
      refine lv_iconst (v := 3) hx hb dX4_takenSlots_5 (by decide) ?_
      refine lv_icmp_ge (tgt := 31) hx hb dX4_takenSlots_6 (by decide) (fun c => absurd c (by decide)) (fun _ => ?_)
      refine lv_aload_n hx hb dX4_takenSlots_9 rfl (lv_at hl 2 rfl) ?_
      refine lv_iload_n hx hb dX4_takenSlots_10 rfl (lv_at hl 3 rfl) ?_
      refine lv_iconst (v := 3) hx hb dX4_takenSlots_11 (by decide) ?_
      refine lv_imul hx hb dX4_takenSlots_12 ?_
      refine lv_iload_n hx hb dX4_takenSlots_13 rfl (lv_at hl 0 rfl) ?_
      refine lv_iadd hx hb dX4_takenSlots_14 ?_
      refine c_iR hw (run_V (As := [.int ((w * 3) + 2)]) (rest := []) (np := 1) hf hw (k_X4_sensorIn l E _ hj ((w * 3) + 2)  ) ⟨gl_V q134 q135 q136 q22 q137, by decide +kernel⟩ ⟨rfl, rfl, Nat.le_of_ble_eq_true rfl, Nat.le_of_ble_eq_true rfl⟩ (lt_iS hj) (c_iS E _ hj) rfl rfl hl.1 rfl (Nat.le_of_ble_eq_true rfl) dX4_takenSlots_15 ⟨Nat.zero_le _, Nat.zero_le _⟩) (fun H locs hw => ?_)
      refine lv_iconst (v := (-1)) hx hb dX4_takenSlots_18 (by decide) ?_
      refine lv_icmp_eq (tgt := 25) hx hb dX4_takenSlots_19 (by decide) (fun c20 => ?_) (fun c20 => ?_)
      · refine lv_iinc (v := 3) (lv' := [(3, .int 3), (2, .int 2), (0, .ref (E.1 (iS j))), (1, .int (w))]) hx hb dX4_takenSlots_25 hl (k := 0) rfl (by decide) (by decide) rfl (fun ls hl => ?_)
        refine lv_goto (tgt := 4) hx hb dX4_takenSlots_28 (by decide) ?_
        refine lv_iload_n hx hb dX4_takenSlots_4 rfl (lv_at hl 0 rfl) ?_
        refine lv_iconst (v := 3) hx hb dX4_takenSlots_5 (by decide) ?_
        refine lv_icmp_ge (tgt := 31) hx hb dX4_takenSlots_6 (by decide) (fun _ => ?_) (fun c => absurd c (by decide))
        refine lv_iload_n hx hb dX4_takenSlots_31 rfl (lv_at hl 1 rfl) ?_
        exact e_i hf hr hlocks hw rfl (congrArg (fun z => (z, μ)) ((if_neg c2).trans ((if_neg c14).trans ((if_pos c20).trans rfl)))) dX4_takenSlots_32
      · refine lv_iinc (v := 3) (lv' := [(2, .int 3), (3, .int 2), (0, .ref (E.1 (iS j))), (1, .int (w))]) hx hb dX4_takenSlots_22 hl (k := 1) rfl (by decide) (by decide) rfl (fun ls hl => ?_)
        refine lv_iinc (v := 3) (lv' := [(3, .int 3), (2, .int 3), (0, .ref (E.1 (iS j))), (1, .int (w))]) hx hb dX4_takenSlots_25 hl (k := 1) rfl (by decide) (by decide) rfl (fun ls hl => ?_)
        refine lv_goto (tgt := 4) hx hb dX4_takenSlots_28 (by decide) ?_
        refine lv_iload_n hx hb dX4_takenSlots_4 rfl (lv_at hl 0 rfl) ?_
        refine lv_iconst (v := 3) hx hb dX4_takenSlots_5 (by decide) ?_
        refine lv_icmp_ge (tgt := 31) hx hb dX4_takenSlots_6 (by decide) (fun _ => ?_) (fun c => absurd c (by decide))
        refine lv_iload_n hx hb dX4_takenSlots_31 rfl (lv_at hl 1 rfl) ?_
        exact e_i hf hr hlocks hw rfl (congrArg (fun z => (z, μ)) ((if_neg c2).trans ((if_neg c14).trans ((if_neg c20).trans rfl)))) dX4_takenSlots_32
def sp_X4_pluggedSensors (g : Nat → Int32)   : Int32 :=
  (((0 + (sp_X4_takenSlots g  (0 : Int32))) + (sp_X4_takenSlots g  (1 : Int32))) + (sp_X4_takenSlots g  (2 : Int32))) + (sp_X4_takenSlots g  (3 : Int32))
set_option maxHeartbeats 4000000 in
set_option maxRecDepth 100000 in
theorem k_X4_pluggedSensors (l : Launch) (E : En) (μ : Mu) {j : Nat} (hj : j < 6)   : MtI l yX4_pluggedSensors cX4_pluggedSensors 3 .int ({ frames := 2, cells := 0, slots := 0, locals := 45 }) [.ref (E.1 (iS j))] E μ ((sp_X4_pluggedSensors (μ.1 j) ), μ) := by
  refine mt_of (by decide +kernel) (Nat.le_of_ble_eq_true rfl) ?_
  intro p e s m args below meth c ls hf hr hlocks hl hw
  have hx := hf.1
  have hb := hf.2.1
  have hl : lv_has ls 3 [(0, .ref (E.1 (iS j)))] := hl
  refine lv_iconst (v := 0) hx hb dX4_pluggedSensors_0 (by decide) ?_
  refine lv_istore_n (lv' := [(1, .int 0), (0, .ref (E.1 (iS j)))]) hx hb dX4_pluggedSensors_1 rfl hl (by decide) rfl (fun ls hl => ?_)
  refine lv_iconst (v := 0) hx hb dX4_pluggedSensors_2 (by decide) ?_
  refine lv_istore_n (lv' := [(2, .int 0), (1, .int 0), (0, .ref (E.1 (iS j)))]) hx hb dX4_pluggedSensors_3 rfl hl (by decide) rfl (fun ls hl => ?_)
  refine lv_iload_n hx hb dX4_pluggedSensors_4 rfl (lv_at hl 0 rfl) ?_
  refine lv_iconst (v := 4) hx hb dX4_pluggedSensors_5 (by decide) ?_
  refine lv_icmp_ge (tgt := 23) hx hb dX4_pluggedSensors_6 (by decide) (fun c => absurd c (by decide)) (fun _ => ?_)
  refine lv_iload_n hx hb dX4_pluggedSensors_9 rfl (lv_at hl 1 rfl) ?_
  refine lv_aload_n hx hb dX4_pluggedSensors_10 rfl (lv_at hl 2 rfl) ?_
  refine lv_iload_n hx hb dX4_pluggedSensors_11 rfl (lv_at hl 0 rfl) ?_
  refine c_iR hw (run_V (As := [.int 0]) (rest := [.int 0]) (np := 1) hf hw (k_X4_takenSlots l E _ hj (0 : Int32)  ) ⟨gl_V q130 q131 q132 q22 q133, by decide +kernel⟩ ⟨rfl, rfl, Nat.le_of_ble_eq_true rfl, Nat.le_of_ble_eq_true rfl⟩ (lt_iS hj) (c_iS E _ hj) rfl rfl hl.1 rfl (Nat.le_of_ble_eq_true rfl) dX4_pluggedSensors_12 ⟨Nat.zero_le _, Nat.zero_le _⟩) (fun H locs hw => ?_)
  refine lv_iadd hx hb dX4_pluggedSensors_15 ?_
  refine lv_istore_n (lv' := [(1, .int (0 + (sp_X4_takenSlots (μ.1 j)  (0 : Int32)))), (2, .int 0), (0, .ref (E.1 (iS j)))]) hx hb dX4_pluggedSensors_16 rfl hl (by decide) rfl (fun ls hl => ?_)
  refine lv_iinc (v := 1) (lv' := [(2, .int 1), (1, .int (0 + (sp_X4_takenSlots (μ.1 j)  (0 : Int32)))), (0, .ref (E.1 (iS j)))]) hx hb dX4_pluggedSensors_17 hl (k := 1) rfl (by decide) (by decide) rfl (fun ls hl => ?_)
  refine lv_goto (tgt := 4) hx hb dX4_pluggedSensors_20 (by decide) ?_
  refine lv_iload_n hx hb dX4_pluggedSensors_4 rfl (lv_at hl 0 rfl) ?_
  refine lv_iconst (v := 4) hx hb dX4_pluggedSensors_5 (by decide) ?_
  refine lv_icmp_ge (tgt := 23) hx hb dX4_pluggedSensors_6 (by decide) (fun c => absurd c (by decide)) (fun _ => ?_)
  refine lv_iload_n hx hb dX4_pluggedSensors_9 rfl (lv_at hl 1 rfl) ?_
  refine lv_aload_n hx hb dX4_pluggedSensors_10 rfl (lv_at hl 2 rfl) ?_
  refine lv_iload_n hx hb dX4_pluggedSensors_11 rfl (lv_at hl 0 rfl) ?_
  refine c_iR hw (run_V (As := [.int 1]) (rest := [.int (0 + (sp_X4_takenSlots (μ.1 j)  (0 : Int32)))]) (np := 1) hf hw (k_X4_takenSlots l E _ hj (1 : Int32)  ) ⟨gl_V q130 q131 q132 q22 q133, by decide +kernel⟩ ⟨rfl, rfl, Nat.le_of_ble_eq_true rfl, Nat.le_of_ble_eq_true rfl⟩ (lt_iS hj) (c_iS E _ hj) rfl rfl hl.1 rfl (Nat.le_of_ble_eq_true rfl) dX4_pluggedSensors_12 ⟨Nat.zero_le _, Nat.zero_le _⟩) (fun H locs hw => ?_)
  refine lv_iadd hx hb dX4_pluggedSensors_15 ?_
  refine lv_istore_n (lv' := [(1, .int ((0 + (sp_X4_takenSlots (μ.1 j)  (0 : Int32))) + (sp_X4_takenSlots (μ.1 j)  (1 : Int32)))), (2, .int 1), (0, .ref (E.1 (iS j)))]) hx hb dX4_pluggedSensors_16 rfl hl (by decide) rfl (fun ls hl => ?_)
  refine lv_iinc (v := 2) (lv' := [(2, .int 2), (1, .int ((0 + (sp_X4_takenSlots (μ.1 j)  (0 : Int32))) + (sp_X4_takenSlots (μ.1 j)  (1 : Int32)))), (0, .ref (E.1 (iS j)))]) hx hb dX4_pluggedSensors_17 hl (k := 1) rfl (by decide) (by decide) rfl (fun ls hl => ?_)
  refine lv_goto (tgt := 4) hx hb dX4_pluggedSensors_20 (by decide) ?_
  refine lv_iload_n hx hb dX4_pluggedSensors_4 rfl (lv_at hl 0 rfl) ?_
  refine lv_iconst (v := 4) hx hb dX4_pluggedSensors_5 (by decide) ?_
  refine lv_icmp_ge (tgt := 23) hx hb dX4_pluggedSensors_6 (by decide) (fun c => absurd c (by decide)) (fun _ => ?_)
  refine lv_iload_n hx hb dX4_pluggedSensors_9 rfl (lv_at hl 1 rfl) ?_
  refine lv_aload_n hx hb dX4_pluggedSensors_10 rfl (lv_at hl 2 rfl) ?_
  refine lv_iload_n hx hb dX4_pluggedSensors_11 rfl (lv_at hl 0 rfl) ?_
  refine c_iR hw (run_V (As := [.int 2]) (rest := [.int ((0 + (sp_X4_takenSlots (μ.1 j)  (0 : Int32))) + (sp_X4_takenSlots (μ.1 j)  (1 : Int32)))]) (np := 1) hf hw (k_X4_takenSlots l E _ hj (2 : Int32)  ) ⟨gl_V q130 q131 q132 q22 q133, by decide +kernel⟩ ⟨rfl, rfl, Nat.le_of_ble_eq_true rfl, Nat.le_of_ble_eq_true rfl⟩ (lt_iS hj) (c_iS E _ hj) rfl rfl hl.1 rfl (Nat.le_of_ble_eq_true rfl) dX4_pluggedSensors_12 ⟨Nat.zero_le _, Nat.zero_le _⟩) (fun H locs hw => ?_)
  refine lv_iadd hx hb dX4_pluggedSensors_15 ?_
  refine lv_istore_n (lv' := [(1, .int (((0 + (sp_X4_takenSlots (μ.1 j)  (0 : Int32))) + (sp_X4_takenSlots (μ.1 j)  (1 : Int32))) + (sp_X4_takenSlots (μ.1 j)  (2 : Int32)))), (2, .int 2), (0, .ref (E.1 (iS j)))]) hx hb dX4_pluggedSensors_16 rfl hl (by decide) rfl (fun ls hl => ?_)
  refine lv_iinc (v := 3) (lv' := [(2, .int 3), (1, .int (((0 + (sp_X4_takenSlots (μ.1 j)  (0 : Int32))) + (sp_X4_takenSlots (μ.1 j)  (1 : Int32))) + (sp_X4_takenSlots (μ.1 j)  (2 : Int32)))), (0, .ref (E.1 (iS j)))]) hx hb dX4_pluggedSensors_17 hl (k := 1) rfl (by decide) (by decide) rfl (fun ls hl => ?_)
  refine lv_goto (tgt := 4) hx hb dX4_pluggedSensors_20 (by decide) ?_
  refine lv_iload_n hx hb dX4_pluggedSensors_4 rfl (lv_at hl 0 rfl) ?_
  refine lv_iconst (v := 4) hx hb dX4_pluggedSensors_5 (by decide) ?_
  refine lv_icmp_ge (tgt := 23) hx hb dX4_pluggedSensors_6 (by decide) (fun c => absurd c (by decide)) (fun _ => ?_)
  refine lv_iload_n hx hb dX4_pluggedSensors_9 rfl (lv_at hl 1 rfl) ?_
  refine lv_aload_n hx hb dX4_pluggedSensors_10 rfl (lv_at hl 2 rfl) ?_
  refine lv_iload_n hx hb dX4_pluggedSensors_11 rfl (lv_at hl 0 rfl) ?_
  refine c_iR hw (run_V (As := [.int 3]) (rest := [.int (((0 + (sp_X4_takenSlots (μ.1 j)  (0 : Int32))) + (sp_X4_takenSlots (μ.1 j)  (1 : Int32))) + (sp_X4_takenSlots (μ.1 j)  (2 : Int32)))]) (np := 1) hf hw (k_X4_takenSlots l E _ hj (3 : Int32)  ) ⟨gl_V q130 q131 q132 q22 q133, by decide +kernel⟩ ⟨rfl, rfl, Nat.le_of_ble_eq_true rfl, Nat.le_of_ble_eq_true rfl⟩ (lt_iS hj) (c_iS E _ hj) rfl rfl hl.1 rfl (Nat.le_of_ble_eq_true rfl) dX4_pluggedSensors_12 ⟨Nat.zero_le _, Nat.zero_le _⟩) (fun H locs hw => ?_)
  refine lv_iadd hx hb dX4_pluggedSensors_15 ?_
  refine lv_istore_n (lv' := [(1, .int ((((0 + (sp_X4_takenSlots (μ.1 j)  (0 : Int32))) + (sp_X4_takenSlots (μ.1 j)  (1 : Int32))) + (sp_X4_takenSlots (μ.1 j)  (2 : Int32))) + (sp_X4_takenSlots (μ.1 j)  (3 : Int32)))), (2, .int 3), (0, .ref (E.1 (iS j)))]) hx hb dX4_pluggedSensors_16 rfl hl (by decide) rfl (fun ls hl => ?_)
  refine lv_iinc (v := 4) (lv' := [(2, .int 4), (1, .int ((((0 + (sp_X4_takenSlots (μ.1 j)  (0 : Int32))) + (sp_X4_takenSlots (μ.1 j)  (1 : Int32))) + (sp_X4_takenSlots (μ.1 j)  (2 : Int32))) + (sp_X4_takenSlots (μ.1 j)  (3 : Int32)))), (0, .ref (E.1 (iS j)))]) hx hb dX4_pluggedSensors_17 hl (k := 1) rfl (by decide) (by decide) rfl (fun ls hl => ?_)
  refine lv_goto (tgt := 4) hx hb dX4_pluggedSensors_20 (by decide) ?_
  refine lv_iload_n hx hb dX4_pluggedSensors_4 rfl (lv_at hl 0 rfl) ?_
  refine lv_iconst (v := 4) hx hb dX4_pluggedSensors_5 (by decide) ?_
  refine lv_icmp_ge (tgt := 23) hx hb dX4_pluggedSensors_6 (by decide) (fun _ => ?_) (fun c => absurd c (by decide))
  refine lv_iload_n hx hb dX4_pluggedSensors_23 rfl (lv_at hl 1 rfl) ?_
  exact e_i hf hr hlocks hw rfl (congrArg (fun z => (z, μ)) rfl) dX4_pluggedSensors_24
def lp_X4_alarmsOn_4 (g : Nat → Int32)   : Nat → Int32 → Nat → Int32
  | 0, _, _ => 0
  | f + 1, x, k =>
    if (g 1 : Int32) ≤ nI k then
      x
    else
      if (6 : Int32) ≤ nI k then
        x
      else
        lp_X4_alarmsOn_4 g  f (x + (g (sF k 10))) (k + 1)
def sp_X4_alarmsOn (g : Nat → Int32)   : Int32 :=
  lp_X4_alarmsOn_4 g  7 (0 : Int32) 0
set_option maxHeartbeats 4000000 in
set_option maxRecDepth 100000 in
theorem k_X4_alarmsOn (l : Launch) (E : En) (μ : Mu) {j : Nat} (hj : j < 6)   : MtI l yX4_alarmsOn cX4_alarmsOn 3 .int ({ frames := 0, cells := 0, slots := 0, locals := 0 }) [.ref (E.1 (iS j))] E μ ((sp_X4_alarmsOn (μ.1 j) ), μ) := by
  refine mt_of (by decide +kernel) (Nat.le_of_ble_eq_true rfl) ?_
  intro p e s m args below meth c ls hf hr hlocks hl hw
  have hx := hf.1
  have hb := hf.2.1
  have hl : lv_has ls 3 [(0, .ref (E.1 (iS j)))] := hl
  refine lv_iconst (v := 0) hx hb dX4_alarmsOn_0 (by decide) ?_
  refine lv_istore_n (lv' := [(1, .int 0), (0, .ref (E.1 (iS j)))]) hx hb dX4_alarmsOn_1 rfl hl (by decide) rfl (fun ls hl => ?_)
  refine lv_iconst (v := 0) hx hb dX4_alarmsOn_2 (by decide) ?_
  refine lv_istore_n (lv' := [(2, .int 0), (1, .int 0), (0, .ref (E.1 (iS j)))]) hx hb dX4_alarmsOn_3 rfl hl (by decide) rfl (fun ls hl => ?_)
  have key_4 : ∀ (f : Nat) (x : Int32) (k : Nat), k + f = 7 → k ≤ 6 → sp_X4_alarmsOn (μ.1 j)  = lp_X4_alarmsOn_4 (μ.1 j)  f x k → ∀ (ls : Array Slot) (H : Heap) (locs : List Loc), lv_has ls 3 [(0, .ref (E.1 (iS j))), (1, .int (x)), (2, .int (nI k))] → Wk E μ s H locs → W p l e ({ frames := 0, cells := 0, slots := 0, locals := 0 }) s m args below meth c H locs 0 0 (MQ below (va_Qi (fun r u => r = ((sp_X4_alarmsOn (μ.1 j) , μ)).1 ∧ u = ((sp_X4_alarmsOn (μ.1 j) , μ)).2) (fun u t => WdU E u t) (inE E)) args s 0 0 (inE E)) (F0 m 4 ls []) := by
    intro f
    induction f with
    | zero => intro x k h1 h2 hq ls H locs hl hw; exfalso; omega
    | succ f ih =>
      intro x k h1 h2 hq ls H locs hl hw
      refine lv_iload_n hx hb dX4_alarmsOn_4 rfl (lv_at hl 2 rfl) ?_
      refine lv_aload_n hx hb dX4_alarmsOn_5 rfl (lv_at hl 0 rfl) ?_
      refine g_f hw hf (lt_iS hj) (c_iS E _ hj) rfl inlX4 1 (by decide) rfl q138 rfl dX4_alarmsOn_6 ?_
      refine lv_icmp_ge (tgt := 39) hx hb dX4_alarmsOn_9 (by decide) (fun c1 => ?_) (fun c1 => ?_)
      · refine lv_iload_n hx hb dX4_alarmsOn_39 rfl (lv_at hl 1 rfl) ?_
        exact e_i hf hr hlocks hw rfl (congrArg (fun z => (z, μ)) ((hq).trans ((if_pos c1).trans rfl))) dX4_alarmsOn_40
      · refine lv_iload_n hx hb dX4_alarmsOn_12 rfl (lv_at hl 2 rfl) ?_
        refine lv_aload_n hx hb dX4_alarmsOn_13 rfl (lv_at hl 0 rfl) ?_
        refine g_f hw hf (lt_iS hj) (c_iS E _ hj) rfl inlX4 4 (by decide) rfl q51 rfl dX4_alarmsOn_14 ?_
        refine g_n hw hf (lt_iSs hj) (c_iSs E _ hj) (t0 := 3) (v := 6) rfl rfl dX4_alarmsOn_17 ?_
        refine lv_icmp_ge (tgt := 39) hx hb dX4_alarmsOn_18 (by decide) (fun c2 => ?_) (fun c2 => ?_)
        · have c2n : 6 ≤ k := by have q := (nI_leI (a := 6) (b := k) (by omega) (by omega)); first | exact q.mp c2 | exact fun z => c2 (q.mpr z)
          refine lv_iload_n hx hb dX4_alarmsOn_39 rfl (lv_at hl 1 rfl) ?_
          exact e_i hf hr hlocks hw rfl (congrArg (fun z => (z, μ)) ((hq).trans ((if_neg c1).trans ((if_pos c2).trans rfl)))) dX4_alarmsOn_40
        · have c2n : ¬ 6 ≤ k := by have q := (nI_leI (a := 6) (b := k) (by omega) (by omega)); first | exact q.mp c2 | exact fun z => c2 (q.mpr z)
          refine lv_iload_n hx hb dX4_alarmsOn_21 rfl (lv_at hl 1 rfl) ?_
          refine lv_aload_n hx hb dX4_alarmsOn_22 rfl (lv_at hl 0 rfl) ?_
          refine g_f hw hf (lt_iS hj) (c_iS E _ hj) rfl inlX4 4 (by decide) rfl q51 rfl dX4_alarmsOn_23 ?_
          refine lv_iload_n hx hb dX4_alarmsOn_26 rfl (lv_at hl 2 rfl) ?_
          refine g_q hw hf (lt_iSs hj) (c_iSs E _ hj) (t0 := 3) rfl (vp_in_nI (show k < 6 from (by omega)) (by decide)) (rf_N (y := k) (by omega) (nI_clamp (Nat.lt_trans (show k < 6 from (by omega)) (by decide)))) dX4_alarmsOn_27 ?_
          refine g_f hw hf (lt_iN hj (by omega)) (c_iN E _ hj (by omega)) rfl inlX3 10 (by decide) rfl q144 rfl dX4_alarmsOn_28 ?_
          refine lv_iadd hx hb dX4_alarmsOn_31 ?_
          refine lv_istore_n (lv' := [(1, .int (x + (μ.1 j (sF k 10)))), (0, .ref (E.1 (iS j))), (2, .int (nI k))]) hx hb dX4_alarmsOn_32 rfl hl (by decide) rfl (fun ls hl => ?_)
          refine lv_iinc (v := nI (k + 1)) (lv' := [(2, .int (nI (k + 1))), (1, .int (x + (μ.1 j (sF k 10)))), (0, .ref (E.1 (iS j)))]) hx hb dX4_alarmsOn_33 hl (k := 2) rfl (nI_1 _) (by decide) rfl (fun ls hl => ?_)
          refine lv_goto (tgt := 4) hx hb dX4_alarmsOn_36 (by decide) ?_
          exact ih (x + (μ.1 j (sF k 10))) (k + 1) (by omega) (by omega) (((hq).trans ((if_neg c1).trans ((if_neg c2).trans rfl)))) _ _ _ (lv_sub hl [2, 1, 0] rfl) hw
  exact key_4 7 (0 : Int32) 0 (by omega) (by omega) (rfl) _ _ _ (lv_sub hl [2, 1, 0] rfl) hw
def lp_X4_allReadings_4 (g : Nat → Int32)   : Nat → Int32 → Nat → Int32
  | 0, _, _ => 0
  | f + 1, x, k =>
    if (g 1 : Int32) ≤ nI k then
      x
    else
      if (6 : Int32) ≤ nI k then
        x
      else
        lp_X4_allReadings_4 g  f (x + (g (sF k 11))) (k + 1)
def sp_X4_allReadings (g : Nat → Int32)   : Int32 :=
  lp_X4_allReadings_4 g  7 (0 : Int32) 0
set_option maxHeartbeats 4000000 in
set_option maxRecDepth 100000 in
theorem k_X4_allReadings (l : Launch) (E : En) (μ : Mu) {j : Nat} (hj : j < 6)   : MtI l yX4_allReadings cX4_allReadings 3 .int ({ frames := 0, cells := 0, slots := 0, locals := 0 }) [.ref (E.1 (iS j))] E μ ((sp_X4_allReadings (μ.1 j) ), μ) := by
  refine mt_of (by decide +kernel) (Nat.le_of_ble_eq_true rfl) ?_
  intro p e s m args below meth c ls hf hr hlocks hl hw
  have hx := hf.1
  have hb := hf.2.1
  have hl : lv_has ls 3 [(0, .ref (E.1 (iS j)))] := hl
  refine lv_iconst (v := 0) hx hb dX4_allReadings_0 (by decide) ?_
  refine lv_istore_n (lv' := [(1, .int 0), (0, .ref (E.1 (iS j)))]) hx hb dX4_allReadings_1 rfl hl (by decide) rfl (fun ls hl => ?_)
  refine lv_iconst (v := 0) hx hb dX4_allReadings_2 (by decide) ?_
  refine lv_istore_n (lv' := [(2, .int 0), (1, .int 0), (0, .ref (E.1 (iS j)))]) hx hb dX4_allReadings_3 rfl hl (by decide) rfl (fun ls hl => ?_)
  have key_4 : ∀ (f : Nat) (x : Int32) (k : Nat), k + f = 7 → k ≤ 6 → sp_X4_allReadings (μ.1 j)  = lp_X4_allReadings_4 (μ.1 j)  f x k → ∀ (ls : Array Slot) (H : Heap) (locs : List Loc), lv_has ls 3 [(0, .ref (E.1 (iS j))), (1, .int (x)), (2, .int (nI k))] → Wk E μ s H locs → W p l e ({ frames := 0, cells := 0, slots := 0, locals := 0 }) s m args below meth c H locs 0 0 (MQ below (va_Qi (fun r u => r = ((sp_X4_allReadings (μ.1 j) , μ)).1 ∧ u = ((sp_X4_allReadings (μ.1 j) , μ)).2) (fun u t => WdU E u t) (inE E)) args s 0 0 (inE E)) (F0 m 4 ls []) := by
    intro f
    induction f with
    | zero => intro x k h1 h2 hq ls H locs hl hw; exfalso; omega
    | succ f ih =>
      intro x k h1 h2 hq ls H locs hl hw
      refine lv_iload_n hx hb dX4_allReadings_4 rfl (lv_at hl 2 rfl) ?_
      refine lv_aload_n hx hb dX4_allReadings_5 rfl (lv_at hl 0 rfl) ?_
      refine g_f hw hf (lt_iS hj) (c_iS E _ hj) rfl inlX4 1 (by decide) rfl q138 rfl dX4_allReadings_6 ?_
      refine lv_icmp_ge (tgt := 39) hx hb dX4_allReadings_9 (by decide) (fun c1 => ?_) (fun c1 => ?_)
      · refine lv_iload_n hx hb dX4_allReadings_39 rfl (lv_at hl 1 rfl) ?_
        exact e_i hf hr hlocks hw rfl (congrArg (fun z => (z, μ)) ((hq).trans ((if_pos c1).trans rfl))) dX4_allReadings_40
      · refine lv_iload_n hx hb dX4_allReadings_12 rfl (lv_at hl 2 rfl) ?_
        refine lv_aload_n hx hb dX4_allReadings_13 rfl (lv_at hl 0 rfl) ?_
        refine g_f hw hf (lt_iS hj) (c_iS E _ hj) rfl inlX4 4 (by decide) rfl q51 rfl dX4_allReadings_14 ?_
        refine g_n hw hf (lt_iSs hj) (c_iSs E _ hj) (t0 := 3) (v := 6) rfl rfl dX4_allReadings_17 ?_
        refine lv_icmp_ge (tgt := 39) hx hb dX4_allReadings_18 (by decide) (fun c2 => ?_) (fun c2 => ?_)
        · have c2n : 6 ≤ k := by have q := (nI_leI (a := 6) (b := k) (by omega) (by omega)); first | exact q.mp c2 | exact fun z => c2 (q.mpr z)
          refine lv_iload_n hx hb dX4_allReadings_39 rfl (lv_at hl 1 rfl) ?_
          exact e_i hf hr hlocks hw rfl (congrArg (fun z => (z, μ)) ((hq).trans ((if_neg c1).trans ((if_pos c2).trans rfl)))) dX4_allReadings_40
        · have c2n : ¬ 6 ≤ k := by have q := (nI_leI (a := 6) (b := k) (by omega) (by omega)); first | exact q.mp c2 | exact fun z => c2 (q.mpr z)
          refine lv_iload_n hx hb dX4_allReadings_21 rfl (lv_at hl 1 rfl) ?_
          refine lv_aload_n hx hb dX4_allReadings_22 rfl (lv_at hl 0 rfl) ?_
          refine g_f hw hf (lt_iS hj) (c_iS E _ hj) rfl inlX4 4 (by decide) rfl q51 rfl dX4_allReadings_23 ?_
          refine lv_iload_n hx hb dX4_allReadings_26 rfl (lv_at hl 2 rfl) ?_
          refine g_q hw hf (lt_iSs hj) (c_iSs E _ hj) (t0 := 3) rfl (vp_in_nI (show k < 6 from (by omega)) (by decide)) (rf_N (y := k) (by omega) (nI_clamp (Nat.lt_trans (show k < 6 from (by omega)) (by decide)))) dX4_allReadings_27 ?_
          refine g_f hw hf (lt_iN hj (by omega)) (c_iN E _ hj (by omega)) rfl inlX3 11 (by decide) rfl q149 rfl dX4_allReadings_28 ?_
          refine lv_iadd hx hb dX4_allReadings_31 ?_
          refine lv_istore_n (lv' := [(1, .int (x + (μ.1 j (sF k 11)))), (0, .ref (E.1 (iS j))), (2, .int (nI k))]) hx hb dX4_allReadings_32 rfl hl (by decide) rfl (fun ls hl => ?_)
          refine lv_iinc (v := nI (k + 1)) (lv' := [(2, .int (nI (k + 1))), (1, .int (x + (μ.1 j (sF k 11)))), (0, .ref (E.1 (iS j)))]) hx hb dX4_allReadings_33 hl (k := 2) rfl (nI_1 _) (by decide) rfl (fun ls hl => ?_)
          refine lv_goto (tgt := 4) hx hb dX4_allReadings_36 (by decide) ?_
          exact ih (x + (μ.1 j (sF k 11))) (k + 1) (by omega) (by omega) (((hq).trans ((if_neg c1).trans ((if_neg c2).trans rfl)))) _ _ _ (lv_sub hl [2, 1, 0] rfl) hw
  exact key_4 7 (0 : Int32) 0 (by omega) (by omega) (rfl) _ _ _ (lv_sub hl [2, 1, 0] rfl) hw
def sp_X4_nextPlugged (g : Nat → Int32)   : Int32 :=
  if (sp_X4_sensorIn g  (((g 2) + 1) - ((g 2) + 1) / 12 * 12) : Int32) = (-1) then
    if (sp_X4_sensorIn g  (((g 2) + 2) - ((g 2) + 2) / 12 * 12) : Int32) = (-1) then
      if (sp_X4_sensorIn g  (((g 2) + 3) - ((g 2) + 3) / 12 * 12) : Int32) = (-1) then
        if (sp_X4_sensorIn g  (((g 2) + 4) - ((g 2) + 4) / 12 * 12) : Int32) = (-1) then
          if (sp_X4_sensorIn g  (((g 2) + 5) - ((g 2) + 5) / 12 * 12) : Int32) = (-1) then
            if (sp_X4_sensorIn g  (((g 2) + 6) - ((g 2) + 6) / 12 * 12) : Int32) = (-1) then
              if (sp_X4_sensorIn g  (((g 2) + 7) - ((g 2) + 7) / 12 * 12) : Int32) = (-1) then
                if (sp_X4_sensorIn g  (((g 2) + 8) - ((g 2) + 8) / 12 * 12) : Int32) = (-1) then
                  if (sp_X4_sensorIn g  (((g 2) + 9) - ((g 2) + 9) / 12 * 12) : Int32) = (-1) then
                    if (sp_X4_sensorIn g  (((g 2) + 10) - ((g 2) + 10) / 12 * 12) : Int32) = (-1) then
                      if (sp_X4_sensorIn g  (((g 2) + 11) - ((g 2) + 11) / 12 * 12) : Int32) = (-1) then
                        if (sp_X4_sensorIn g  (((g 2) + 12) - ((g 2) + 12) / 12 * 12) : Int32) = (-1) then
                          (-1)
                        else
                          sp_X4_sensorIn g  (((g 2) + 12) - ((g 2) + 12) / 12 * 12)
                      else
                        sp_X4_sensorIn g  (((g 2) + 11) - ((g 2) + 11) / 12 * 12)
                    else
                      sp_X4_sensorIn g  (((g 2) + 10) - ((g 2) + 10) / 12 * 12)
                  else
                    sp_X4_sensorIn g  (((g 2) + 9) - ((g 2) + 9) / 12 * 12)
                else
                  sp_X4_sensorIn g  (((g 2) + 8) - ((g 2) + 8) / 12 * 12)
              else
                sp_X4_sensorIn g  (((g 2) + 7) - ((g 2) + 7) / 12 * 12)
            else
              sp_X4_sensorIn g  (((g 2) + 6) - ((g 2) + 6) / 12 * 12)
          else
            sp_X4_sensorIn g  (((g 2) + 5) - ((g 2) + 5) / 12 * 12)
        else
          sp_X4_sensorIn g  (((g 2) + 4) - ((g 2) + 4) / 12 * 12)
      else
        sp_X4_sensorIn g  (((g 2) + 3) - ((g 2) + 3) / 12 * 12)
    else
      sp_X4_sensorIn g  (((g 2) + 2) - ((g 2) + 2) / 12 * 12)
  else
    sp_X4_sensorIn g  (((g 2) + 1) - ((g 2) + 1) / 12 * 12)
set_option maxHeartbeats 4000000 in
set_option maxRecDepth 100000 in
theorem k_X4_nextPlugged (l : Launch) (E : En) (μ : Mu) {j : Nat} (hj : j < 6)   : MtI l yX4_nextPlugged cX4_nextPlugged 3 .int ({ frames := 1, cells := 0, slots := 0, locals := 22 }) [.ref (E.1 (iS j))] E μ ((sp_X4_nextPlugged (μ.1 j) ), μ) := by
  refine mt_of (by decide +kernel) (Nat.le_of_ble_eq_true rfl) ?_
  intro p e s m args below meth c ls hf hr hlocks hl hw
  have hx := hf.1
  have hb := hf.2.1
  have hl : lv_has ls 3 [(0, .ref (E.1 (iS j)))] := hl
  refine lv_iconst (v := 1) hx hb dX4_nextPlugged_0 (by decide) ?_
  refine lv_istore_n (lv' := [(1, .int 1), (0, .ref (E.1 (iS j)))]) hx hb dX4_nextPlugged_1 rfl hl (by decide) rfl (fun ls hl => ?_)
  refine lv_iload_n hx hb dX4_nextPlugged_2 rfl (lv_at hl 0 rfl) ?_
  refine lv_bipush (v := 12) hx hb dX4_nextPlugged_3 (by decide) ?_
  refine lv_icmp_gt (tgt := 35) hx hb dX4_nextPlugged_5 (by decide) (fun c => absurd c (by decide)) (fun _ => ?_)
  refine lv_aload_n hx hb dX4_nextPlugged_8 rfl (lv_at hl 1 rfl) ?_
  refine lv_aload_n hx hb dX4_nextPlugged_9 rfl (lv_at hl 1 rfl) ?_
  refine g_f hw hf (lt_iS hj) (c_iS E _ hj) rfl inlX4 2 (by decide) rfl q47 rfl dX4_nextPlugged_10 ?_
  refine lv_iload_n hx hb dX4_nextPlugged_13 rfl (lv_at hl 0 rfl) ?_
  refine lv_iadd hx hb dX4_nextPlugged_14 ?_
  refine lv_bipush (v := 12) hx hb dX4_nextPlugged_15 (by decide) ?_
  refine lv_irem hx hb dX4_nextPlugged_17 (by decide) ?_
  refine c_iR hw (run_V (As := [.int (((μ.1 j 2) + 1) - ((μ.1 j 2) + 1) / 12 * 12)]) (rest := []) (np := 1) hf hw (k_X4_sensorIn l E _ hj (((μ.1 j 2) + 1) - ((μ.1 j 2) + 1) / 12 * 12)  ) ⟨gl_V q134 q135 q136 q22 q137, by decide +kernel⟩ ⟨rfl, rfl, Nat.le_of_ble_eq_true rfl, Nat.le_of_ble_eq_true rfl⟩ (lt_iS hj) (c_iS E _ hj) rfl rfl hl.1 rfl (Nat.le_of_ble_eq_true rfl) dX4_nextPlugged_18 ⟨Nat.zero_le _, Nat.zero_le _⟩) (fun H locs hw => ?_)
  refine lv_istore_n (lv' := [(2, .int (sp_X4_sensorIn (μ.1 j)  (((μ.1 j 2) + 1) - ((μ.1 j 2) + 1) / 12 * 12))), (1, .int 1), (0, .ref (E.1 (iS j)))]) hx hb dX4_nextPlugged_21 rfl hl (by decide) rfl (fun ls hl => ?_)
  refine lv_iload_n hx hb dX4_nextPlugged_22 rfl (lv_at hl 0 rfl) ?_
  refine lv_iconst (v := (-1)) hx hb dX4_nextPlugged_23 (by decide) ?_
  refine lv_icmp_eq (tgt := 29) hx hb dX4_nextPlugged_24 (by decide) (fun c2 => ?_) (fun c2 => ?_)
  · refine lv_iinc (v := 2) (lv' := [(1, .int 2), (2, .int (sp_X4_sensorIn (μ.1 j)  (((μ.1 j 2) + 1) - ((μ.1 j 2) + 1) / 12 * 12))), (0, .ref (E.1 (iS j)))]) hx hb dX4_nextPlugged_29 hl (k := 1) rfl (by decide) (by decide) rfl (fun ls hl => ?_)
    refine lv_goto (tgt := 2) hx hb dX4_nextPlugged_32 (by decide) ?_
    refine lv_iload_n hx hb dX4_nextPlugged_2 rfl (lv_at hl 0 rfl) ?_
    refine lv_bipush (v := 12) hx hb dX4_nextPlugged_3 (by decide) ?_
    refine lv_icmp_gt (tgt := 35) hx hb dX4_nextPlugged_5 (by decide) (fun c => absurd c (by decide)) (fun _ => ?_)
    refine lv_aload_n hx hb dX4_nextPlugged_8 rfl (lv_at hl 2 rfl) ?_
    refine lv_aload_n hx hb dX4_nextPlugged_9 rfl (lv_at hl 2 rfl) ?_
    refine g_f hw hf (lt_iS hj) (c_iS E _ hj) rfl inlX4 2 (by decide) rfl q47 rfl dX4_nextPlugged_10 ?_
    refine lv_iload_n hx hb dX4_nextPlugged_13 rfl (lv_at hl 0 rfl) ?_
    refine lv_iadd hx hb dX4_nextPlugged_14 ?_
    refine lv_bipush (v := 12) hx hb dX4_nextPlugged_15 (by decide) ?_
    refine lv_irem hx hb dX4_nextPlugged_17 (by decide) ?_
    refine c_iR hw (run_V (As := [.int (((μ.1 j 2) + 2) - ((μ.1 j 2) + 2) / 12 * 12)]) (rest := []) (np := 1) hf hw (k_X4_sensorIn l E _ hj (((μ.1 j 2) + 2) - ((μ.1 j 2) + 2) / 12 * 12)  ) ⟨gl_V q134 q135 q136 q22 q137, by decide +kernel⟩ ⟨rfl, rfl, Nat.le_of_ble_eq_true rfl, Nat.le_of_ble_eq_true rfl⟩ (lt_iS hj) (c_iS E _ hj) rfl rfl hl.1 rfl (Nat.le_of_ble_eq_true rfl) dX4_nextPlugged_18 ⟨Nat.zero_le _, Nat.zero_le _⟩) (fun H locs hw => ?_)
    refine lv_istore_n (lv' := [(2, .int (sp_X4_sensorIn (μ.1 j)  (((μ.1 j 2) + 2) - ((μ.1 j 2) + 2) / 12 * 12))), (1, .int 2), (0, .ref (E.1 (iS j)))]) hx hb dX4_nextPlugged_21 rfl hl (by decide) rfl (fun ls hl => ?_)
    refine lv_iload_n hx hb dX4_nextPlugged_22 rfl (lv_at hl 0 rfl) ?_
    refine lv_iconst (v := (-1)) hx hb dX4_nextPlugged_23 (by decide) ?_
    refine lv_icmp_eq (tgt := 29) hx hb dX4_nextPlugged_24 (by decide) (fun c4 => ?_) (fun c4 => ?_)
    · refine lv_iinc (v := 3) (lv' := [(1, .int 3), (2, .int (sp_X4_sensorIn (μ.1 j)  (((μ.1 j 2) + 2) - ((μ.1 j 2) + 2) / 12 * 12))), (0, .ref (E.1 (iS j)))]) hx hb dX4_nextPlugged_29 hl (k := 1) rfl (by decide) (by decide) rfl (fun ls hl => ?_)
      refine lv_goto (tgt := 2) hx hb dX4_nextPlugged_32 (by decide) ?_
      refine lv_iload_n hx hb dX4_nextPlugged_2 rfl (lv_at hl 0 rfl) ?_
      refine lv_bipush (v := 12) hx hb dX4_nextPlugged_3 (by decide) ?_
      refine lv_icmp_gt (tgt := 35) hx hb dX4_nextPlugged_5 (by decide) (fun c => absurd c (by decide)) (fun _ => ?_)
      refine lv_aload_n hx hb dX4_nextPlugged_8 rfl (lv_at hl 2 rfl) ?_
      refine lv_aload_n hx hb dX4_nextPlugged_9 rfl (lv_at hl 2 rfl) ?_
      refine g_f hw hf (lt_iS hj) (c_iS E _ hj) rfl inlX4 2 (by decide) rfl q47 rfl dX4_nextPlugged_10 ?_
      refine lv_iload_n hx hb dX4_nextPlugged_13 rfl (lv_at hl 0 rfl) ?_
      refine lv_iadd hx hb dX4_nextPlugged_14 ?_
      refine lv_bipush (v := 12) hx hb dX4_nextPlugged_15 (by decide) ?_
      refine lv_irem hx hb dX4_nextPlugged_17 (by decide) ?_
      refine c_iR hw (run_V (As := [.int (((μ.1 j 2) + 3) - ((μ.1 j 2) + 3) / 12 * 12)]) (rest := []) (np := 1) hf hw (k_X4_sensorIn l E _ hj (((μ.1 j 2) + 3) - ((μ.1 j 2) + 3) / 12 * 12)  ) ⟨gl_V q134 q135 q136 q22 q137, by decide +kernel⟩ ⟨rfl, rfl, Nat.le_of_ble_eq_true rfl, Nat.le_of_ble_eq_true rfl⟩ (lt_iS hj) (c_iS E _ hj) rfl rfl hl.1 rfl (Nat.le_of_ble_eq_true rfl) dX4_nextPlugged_18 ⟨Nat.zero_le _, Nat.zero_le _⟩) (fun H locs hw => ?_)
      refine lv_istore_n (lv' := [(2, .int (sp_X4_sensorIn (μ.1 j)  (((μ.1 j 2) + 3) - ((μ.1 j 2) + 3) / 12 * 12))), (1, .int 3), (0, .ref (E.1 (iS j)))]) hx hb dX4_nextPlugged_21 rfl hl (by decide) rfl (fun ls hl => ?_)
      refine lv_iload_n hx hb dX4_nextPlugged_22 rfl (lv_at hl 0 rfl) ?_
      refine lv_iconst (v := (-1)) hx hb dX4_nextPlugged_23 (by decide) ?_
      refine lv_icmp_eq (tgt := 29) hx hb dX4_nextPlugged_24 (by decide) (fun c6 => ?_) (fun c6 => ?_)
      · refine lv_iinc (v := 4) (lv' := [(1, .int 4), (2, .int (sp_X4_sensorIn (μ.1 j)  (((μ.1 j 2) + 3) - ((μ.1 j 2) + 3) / 12 * 12))), (0, .ref (E.1 (iS j)))]) hx hb dX4_nextPlugged_29 hl (k := 1) rfl (by decide) (by decide) rfl (fun ls hl => ?_)
        refine lv_goto (tgt := 2) hx hb dX4_nextPlugged_32 (by decide) ?_
        refine lv_iload_n hx hb dX4_nextPlugged_2 rfl (lv_at hl 0 rfl) ?_
        refine lv_bipush (v := 12) hx hb dX4_nextPlugged_3 (by decide) ?_
        refine lv_icmp_gt (tgt := 35) hx hb dX4_nextPlugged_5 (by decide) (fun c => absurd c (by decide)) (fun _ => ?_)
        refine lv_aload_n hx hb dX4_nextPlugged_8 rfl (lv_at hl 2 rfl) ?_
        refine lv_aload_n hx hb dX4_nextPlugged_9 rfl (lv_at hl 2 rfl) ?_
        refine g_f hw hf (lt_iS hj) (c_iS E _ hj) rfl inlX4 2 (by decide) rfl q47 rfl dX4_nextPlugged_10 ?_
        refine lv_iload_n hx hb dX4_nextPlugged_13 rfl (lv_at hl 0 rfl) ?_
        refine lv_iadd hx hb dX4_nextPlugged_14 ?_
        refine lv_bipush (v := 12) hx hb dX4_nextPlugged_15 (by decide) ?_
        refine lv_irem hx hb dX4_nextPlugged_17 (by decide) ?_
        refine c_iR hw (run_V (As := [.int (((μ.1 j 2) + 4) - ((μ.1 j 2) + 4) / 12 * 12)]) (rest := []) (np := 1) hf hw (k_X4_sensorIn l E _ hj (((μ.1 j 2) + 4) - ((μ.1 j 2) + 4) / 12 * 12)  ) ⟨gl_V q134 q135 q136 q22 q137, by decide +kernel⟩ ⟨rfl, rfl, Nat.le_of_ble_eq_true rfl, Nat.le_of_ble_eq_true rfl⟩ (lt_iS hj) (c_iS E _ hj) rfl rfl hl.1 rfl (Nat.le_of_ble_eq_true rfl) dX4_nextPlugged_18 ⟨Nat.zero_le _, Nat.zero_le _⟩) (fun H locs hw => ?_)
        refine lv_istore_n (lv' := [(2, .int (sp_X4_sensorIn (μ.1 j)  (((μ.1 j 2) + 4) - ((μ.1 j 2) + 4) / 12 * 12))), (1, .int 4), (0, .ref (E.1 (iS j)))]) hx hb dX4_nextPlugged_21 rfl hl (by decide) rfl (fun ls hl => ?_)
        refine lv_iload_n hx hb dX4_nextPlugged_22 rfl (lv_at hl 0 rfl) ?_
        refine lv_iconst (v := (-1)) hx hb dX4_nextPlugged_23 (by decide) ?_
        refine lv_icmp_eq (tgt := 29) hx hb dX4_nextPlugged_24 (by decide) (fun c8 => ?_) (fun c8 => ?_)
        · refine lv_iinc (v := 5) (lv' := [(1, .int 5), (2, .int (sp_X4_sensorIn (μ.1 j)  (((μ.1 j 2) + 4) - ((μ.1 j 2) + 4) / 12 * 12))), (0, .ref (E.1 (iS j)))]) hx hb dX4_nextPlugged_29 hl (k := 1) rfl (by decide) (by decide) rfl (fun ls hl => ?_)
          refine lv_goto (tgt := 2) hx hb dX4_nextPlugged_32 (by decide) ?_
          refine lv_iload_n hx hb dX4_nextPlugged_2 rfl (lv_at hl 0 rfl) ?_
          refine lv_bipush (v := 12) hx hb dX4_nextPlugged_3 (by decide) ?_
          refine lv_icmp_gt (tgt := 35) hx hb dX4_nextPlugged_5 (by decide) (fun c => absurd c (by decide)) (fun _ => ?_)
          refine lv_aload_n hx hb dX4_nextPlugged_8 rfl (lv_at hl 2 rfl) ?_
          refine lv_aload_n hx hb dX4_nextPlugged_9 rfl (lv_at hl 2 rfl) ?_
          refine g_f hw hf (lt_iS hj) (c_iS E _ hj) rfl inlX4 2 (by decide) rfl q47 rfl dX4_nextPlugged_10 ?_
          refine lv_iload_n hx hb dX4_nextPlugged_13 rfl (lv_at hl 0 rfl) ?_
          refine lv_iadd hx hb dX4_nextPlugged_14 ?_
          refine lv_bipush (v := 12) hx hb dX4_nextPlugged_15 (by decide) ?_
          refine lv_irem hx hb dX4_nextPlugged_17 (by decide) ?_
          refine c_iR hw (run_V (As := [.int (((μ.1 j 2) + 5) - ((μ.1 j 2) + 5) / 12 * 12)]) (rest := []) (np := 1) hf hw (k_X4_sensorIn l E _ hj (((μ.1 j 2) + 5) - ((μ.1 j 2) + 5) / 12 * 12)  ) ⟨gl_V q134 q135 q136 q22 q137, by decide +kernel⟩ ⟨rfl, rfl, Nat.le_of_ble_eq_true rfl, Nat.le_of_ble_eq_true rfl⟩ (lt_iS hj) (c_iS E _ hj) rfl rfl hl.1 rfl (Nat.le_of_ble_eq_true rfl) dX4_nextPlugged_18 ⟨Nat.zero_le _, Nat.zero_le _⟩) (fun H locs hw => ?_)
          refine lv_istore_n (lv' := [(2, .int (sp_X4_sensorIn (μ.1 j)  (((μ.1 j 2) + 5) - ((μ.1 j 2) + 5) / 12 * 12))), (1, .int 5), (0, .ref (E.1 (iS j)))]) hx hb dX4_nextPlugged_21 rfl hl (by decide) rfl (fun ls hl => ?_)
          refine lv_iload_n hx hb dX4_nextPlugged_22 rfl (lv_at hl 0 rfl) ?_
          refine lv_iconst (v := (-1)) hx hb dX4_nextPlugged_23 (by decide) ?_
          refine lv_icmp_eq (tgt := 29) hx hb dX4_nextPlugged_24 (by decide) (fun c10 => ?_) (fun c10 => ?_)
          · refine lv_iinc (v := 6) (lv' := [(1, .int 6), (2, .int (sp_X4_sensorIn (μ.1 j)  (((μ.1 j 2) + 5) - ((μ.1 j 2) + 5) / 12 * 12))), (0, .ref (E.1 (iS j)))]) hx hb dX4_nextPlugged_29 hl (k := 1) rfl (by decide) (by decide) rfl (fun ls hl => ?_)
            refine lv_goto (tgt := 2) hx hb dX4_nextPlugged_32 (by decide) ?_
            refine lv_iload_n hx hb dX4_nextPlugged_2 rfl (lv_at hl 0 rfl) ?_
            refine lv_bipush (v := 12) hx hb dX4_nextPlugged_3 (by decide) ?_
            refine lv_icmp_gt (tgt := 35) hx hb dX4_nextPlugged_5 (by decide) (fun c => absurd c (by decide)) (fun _ => ?_)
            refine lv_aload_n hx hb dX4_nextPlugged_8 rfl (lv_at hl 2 rfl) ?_
            refine lv_aload_n hx hb dX4_nextPlugged_9 rfl (lv_at hl 2 rfl) ?_
            refine g_f hw hf (lt_iS hj) (c_iS E _ hj) rfl inlX4 2 (by decide) rfl q47 rfl dX4_nextPlugged_10 ?_
            refine lv_iload_n hx hb dX4_nextPlugged_13 rfl (lv_at hl 0 rfl) ?_
            refine lv_iadd hx hb dX4_nextPlugged_14 ?_
            refine lv_bipush (v := 12) hx hb dX4_nextPlugged_15 (by decide) ?_
            refine lv_irem hx hb dX4_nextPlugged_17 (by decide) ?_
            refine c_iR hw (run_V (As := [.int (((μ.1 j 2) + 6) - ((μ.1 j 2) + 6) / 12 * 12)]) (rest := []) (np := 1) hf hw (k_X4_sensorIn l E _ hj (((μ.1 j 2) + 6) - ((μ.1 j 2) + 6) / 12 * 12)  ) ⟨gl_V q134 q135 q136 q22 q137, by decide +kernel⟩ ⟨rfl, rfl, Nat.le_of_ble_eq_true rfl, Nat.le_of_ble_eq_true rfl⟩ (lt_iS hj) (c_iS E _ hj) rfl rfl hl.1 rfl (Nat.le_of_ble_eq_true rfl) dX4_nextPlugged_18 ⟨Nat.zero_le _, Nat.zero_le _⟩) (fun H locs hw => ?_)
            refine lv_istore_n (lv' := [(2, .int (sp_X4_sensorIn (μ.1 j)  (((μ.1 j 2) + 6) - ((μ.1 j 2) + 6) / 12 * 12))), (1, .int 6), (0, .ref (E.1 (iS j)))]) hx hb dX4_nextPlugged_21 rfl hl (by decide) rfl (fun ls hl => ?_)
            refine lv_iload_n hx hb dX4_nextPlugged_22 rfl (lv_at hl 0 rfl) ?_
            refine lv_iconst (v := (-1)) hx hb dX4_nextPlugged_23 (by decide) ?_
            refine lv_icmp_eq (tgt := 29) hx hb dX4_nextPlugged_24 (by decide) (fun c12 => ?_) (fun c12 => ?_)
            · refine lv_iinc (v := 7) (lv' := [(1, .int 7), (2, .int (sp_X4_sensorIn (μ.1 j)  (((μ.1 j 2) + 6) - ((μ.1 j 2) + 6) / 12 * 12))), (0, .ref (E.1 (iS j)))]) hx hb dX4_nextPlugged_29 hl (k := 1) rfl (by decide) (by decide) rfl (fun ls hl => ?_)
              refine lv_goto (tgt := 2) hx hb dX4_nextPlugged_32 (by decide) ?_
              refine lv_iload_n hx hb dX4_nextPlugged_2 rfl (lv_at hl 0 rfl) ?_
              refine lv_bipush (v := 12) hx hb dX4_nextPlugged_3 (by decide) ?_
              refine lv_icmp_gt (tgt := 35) hx hb dX4_nextPlugged_5 (by decide) (fun c => absurd c (by decide)) (fun _ => ?_)
              refine lv_aload_n hx hb dX4_nextPlugged_8 rfl (lv_at hl 2 rfl) ?_
              refine lv_aload_n hx hb dX4_nextPlugged_9 rfl (lv_at hl 2 rfl) ?_
              refine g_f hw hf (lt_iS hj) (c_iS E _ hj) rfl inlX4 2 (by decide) rfl q47 rfl dX4_nextPlugged_10 ?_
              refine lv_iload_n hx hb dX4_nextPlugged_13 rfl (lv_at hl 0 rfl) ?_
              refine lv_iadd hx hb dX4_nextPlugged_14 ?_
              refine lv_bipush (v := 12) hx hb dX4_nextPlugged_15 (by decide) ?_
              refine lv_irem hx hb dX4_nextPlugged_17 (by decide) ?_
              refine c_iR hw (run_V (As := [.int (((μ.1 j 2) + 7) - ((μ.1 j 2) + 7) / 12 * 12)]) (rest := []) (np := 1) hf hw (k_X4_sensorIn l E _ hj (((μ.1 j 2) + 7) - ((μ.1 j 2) + 7) / 12 * 12)  ) ⟨gl_V q134 q135 q136 q22 q137, by decide +kernel⟩ ⟨rfl, rfl, Nat.le_of_ble_eq_true rfl, Nat.le_of_ble_eq_true rfl⟩ (lt_iS hj) (c_iS E _ hj) rfl rfl hl.1 rfl (Nat.le_of_ble_eq_true rfl) dX4_nextPlugged_18 ⟨Nat.zero_le _, Nat.zero_le _⟩) (fun H locs hw => ?_)
              refine lv_istore_n (lv' := [(2, .int (sp_X4_sensorIn (μ.1 j)  (((μ.1 j 2) + 7) - ((μ.1 j 2) + 7) / 12 * 12))), (1, .int 7), (0, .ref (E.1 (iS j)))]) hx hb dX4_nextPlugged_21 rfl hl (by decide) rfl (fun ls hl => ?_)
              refine lv_iload_n hx hb dX4_nextPlugged_22 rfl (lv_at hl 0 rfl) ?_
              refine lv_iconst (v := (-1)) hx hb dX4_nextPlugged_23 (by decide) ?_
              refine lv_icmp_eq (tgt := 29) hx hb dX4_nextPlugged_24 (by decide) (fun c14 => ?_) (fun c14 => ?_)
              · refine lv_iinc (v := 8) (lv' := [(1, .int 8), (2, .int (sp_X4_sensorIn (μ.1 j)  (((μ.1 j 2) + 7) - ((μ.1 j 2) + 7) / 12 * 12))), (0, .ref (E.1 (iS j)))]) hx hb dX4_nextPlugged_29 hl (k := 1) rfl (by decide) (by decide) rfl (fun ls hl => ?_)
                refine lv_goto (tgt := 2) hx hb dX4_nextPlugged_32 (by decide) ?_
                refine lv_iload_n hx hb dX4_nextPlugged_2 rfl (lv_at hl 0 rfl) ?_
                refine lv_bipush (v := 12) hx hb dX4_nextPlugged_3 (by decide) ?_
                refine lv_icmp_gt (tgt := 35) hx hb dX4_nextPlugged_5 (by decide) (fun c => absurd c (by decide)) (fun _ => ?_)
                refine lv_aload_n hx hb dX4_nextPlugged_8 rfl (lv_at hl 2 rfl) ?_
                refine lv_aload_n hx hb dX4_nextPlugged_9 rfl (lv_at hl 2 rfl) ?_
                refine g_f hw hf (lt_iS hj) (c_iS E _ hj) rfl inlX4 2 (by decide) rfl q47 rfl dX4_nextPlugged_10 ?_
                refine lv_iload_n hx hb dX4_nextPlugged_13 rfl (lv_at hl 0 rfl) ?_
                refine lv_iadd hx hb dX4_nextPlugged_14 ?_
                refine lv_bipush (v := 12) hx hb dX4_nextPlugged_15 (by decide) ?_
                refine lv_irem hx hb dX4_nextPlugged_17 (by decide) ?_
                refine c_iR hw (run_V (As := [.int (((μ.1 j 2) + 8) - ((μ.1 j 2) + 8) / 12 * 12)]) (rest := []) (np := 1) hf hw (k_X4_sensorIn l E _ hj (((μ.1 j 2) + 8) - ((μ.1 j 2) + 8) / 12 * 12)  ) ⟨gl_V q134 q135 q136 q22 q137, by decide +kernel⟩ ⟨rfl, rfl, Nat.le_of_ble_eq_true rfl, Nat.le_of_ble_eq_true rfl⟩ (lt_iS hj) (c_iS E _ hj) rfl rfl hl.1 rfl (Nat.le_of_ble_eq_true rfl) dX4_nextPlugged_18 ⟨Nat.zero_le _, Nat.zero_le _⟩) (fun H locs hw => ?_)
                refine lv_istore_n (lv' := [(2, .int (sp_X4_sensorIn (μ.1 j)  (((μ.1 j 2) + 8) - ((μ.1 j 2) + 8) / 12 * 12))), (1, .int 8), (0, .ref (E.1 (iS j)))]) hx hb dX4_nextPlugged_21 rfl hl (by decide) rfl (fun ls hl => ?_)
                refine lv_iload_n hx hb dX4_nextPlugged_22 rfl (lv_at hl 0 rfl) ?_
                refine lv_iconst (v := (-1)) hx hb dX4_nextPlugged_23 (by decide) ?_
                refine lv_icmp_eq (tgt := 29) hx hb dX4_nextPlugged_24 (by decide) (fun c16 => ?_) (fun c16 => ?_)
                · refine lv_iinc (v := 9) (lv' := [(1, .int 9), (2, .int (sp_X4_sensorIn (μ.1 j)  (((μ.1 j 2) + 8) - ((μ.1 j 2) + 8) / 12 * 12))), (0, .ref (E.1 (iS j)))]) hx hb dX4_nextPlugged_29 hl (k := 1) rfl (by decide) (by decide) rfl (fun ls hl => ?_)
                  refine lv_goto (tgt := 2) hx hb dX4_nextPlugged_32 (by decide) ?_
                  refine lv_iload_n hx hb dX4_nextPlugged_2 rfl (lv_at hl 0 rfl) ?_
                  refine lv_bipush (v := 12) hx hb dX4_nextPlugged_3 (by decide) ?_
                  refine lv_icmp_gt (tgt := 35) hx hb dX4_nextPlugged_5 (by decide) (fun c => absurd c (by decide)) (fun _ => ?_)
                  refine lv_aload_n hx hb dX4_nextPlugged_8 rfl (lv_at hl 2 rfl) ?_
                  refine lv_aload_n hx hb dX4_nextPlugged_9 rfl (lv_at hl 2 rfl) ?_
                  refine g_f hw hf (lt_iS hj) (c_iS E _ hj) rfl inlX4 2 (by decide) rfl q47 rfl dX4_nextPlugged_10 ?_
                  refine lv_iload_n hx hb dX4_nextPlugged_13 rfl (lv_at hl 0 rfl) ?_
                  refine lv_iadd hx hb dX4_nextPlugged_14 ?_
                  refine lv_bipush (v := 12) hx hb dX4_nextPlugged_15 (by decide) ?_
                  refine lv_irem hx hb dX4_nextPlugged_17 (by decide) ?_
                  refine c_iR hw (run_V (As := [.int (((μ.1 j 2) + 9) - ((μ.1 j 2) + 9) / 12 * 12)]) (rest := []) (np := 1) hf hw (k_X4_sensorIn l E _ hj (((μ.1 j 2) + 9) - ((μ.1 j 2) + 9) / 12 * 12)  ) ⟨gl_V q134 q135 q136 q22 q137, by decide +kernel⟩ ⟨rfl, rfl, Nat.le_of_ble_eq_true rfl, Nat.le_of_ble_eq_true rfl⟩ (lt_iS hj) (c_iS E _ hj) rfl rfl hl.1 rfl (Nat.le_of_ble_eq_true rfl) dX4_nextPlugged_18 ⟨Nat.zero_le _, Nat.zero_le _⟩) (fun H locs hw => ?_)
                  refine lv_istore_n (lv' := [(2, .int (sp_X4_sensorIn (μ.1 j)  (((μ.1 j 2) + 9) - ((μ.1 j 2) + 9) / 12 * 12))), (1, .int 9), (0, .ref (E.1 (iS j)))]) hx hb dX4_nextPlugged_21 rfl hl (by decide) rfl (fun ls hl => ?_)
                  refine lv_iload_n hx hb dX4_nextPlugged_22 rfl (lv_at hl 0 rfl) ?_
                  refine lv_iconst (v := (-1)) hx hb dX4_nextPlugged_23 (by decide) ?_
                  refine lv_icmp_eq (tgt := 29) hx hb dX4_nextPlugged_24 (by decide) (fun c18 => ?_) (fun c18 => ?_)
                  · refine lv_iinc (v := 10) (lv' := [(1, .int 10), (2, .int (sp_X4_sensorIn (μ.1 j)  (((μ.1 j 2) + 9) - ((μ.1 j 2) + 9) / 12 * 12))), (0, .ref (E.1 (iS j)))]) hx hb dX4_nextPlugged_29 hl (k := 1) rfl (by decide) (by decide) rfl (fun ls hl => ?_)
                    refine lv_goto (tgt := 2) hx hb dX4_nextPlugged_32 (by decide) ?_
                    refine lv_iload_n hx hb dX4_nextPlugged_2 rfl (lv_at hl 0 rfl) ?_
                    refine lv_bipush (v := 12) hx hb dX4_nextPlugged_3 (by decide) ?_
                    refine lv_icmp_gt (tgt := 35) hx hb dX4_nextPlugged_5 (by decide) (fun c => absurd c (by decide)) (fun _ => ?_)
                    refine lv_aload_n hx hb dX4_nextPlugged_8 rfl (lv_at hl 2 rfl) ?_
                    refine lv_aload_n hx hb dX4_nextPlugged_9 rfl (lv_at hl 2 rfl) ?_
                    refine g_f hw hf (lt_iS hj) (c_iS E _ hj) rfl inlX4 2 (by decide) rfl q47 rfl dX4_nextPlugged_10 ?_
                    refine lv_iload_n hx hb dX4_nextPlugged_13 rfl (lv_at hl 0 rfl) ?_
                    refine lv_iadd hx hb dX4_nextPlugged_14 ?_
                    refine lv_bipush (v := 12) hx hb dX4_nextPlugged_15 (by decide) ?_
                    refine lv_irem hx hb dX4_nextPlugged_17 (by decide) ?_
                    refine c_iR hw (run_V (As := [.int (((μ.1 j 2) + 10) - ((μ.1 j 2) + 10) / 12 * 12)]) (rest := []) (np := 1) hf hw (k_X4_sensorIn l E _ hj (((μ.1 j 2) + 10) - ((μ.1 j 2) + 10) / 12 * 12)  ) ⟨gl_V q134 q135 q136 q22 q137, by decide +kernel⟩ ⟨rfl, rfl, Nat.le_of_ble_eq_true rfl, Nat.le_of_ble_eq_true rfl⟩ (lt_iS hj) (c_iS E _ hj) rfl rfl hl.1 rfl (Nat.le_of_ble_eq_true rfl) dX4_nextPlugged_18 ⟨Nat.zero_le _, Nat.zero_le _⟩) (fun H locs hw => ?_)
                    refine lv_istore_n (lv' := [(2, .int (sp_X4_sensorIn (μ.1 j)  (((μ.1 j 2) + 10) - ((μ.1 j 2) + 10) / 12 * 12))), (1, .int 10), (0, .ref (E.1 (iS j)))]) hx hb dX4_nextPlugged_21 rfl hl (by decide) rfl (fun ls hl => ?_)
                    refine lv_iload_n hx hb dX4_nextPlugged_22 rfl (lv_at hl 0 rfl) ?_
                    refine lv_iconst (v := (-1)) hx hb dX4_nextPlugged_23 (by decide) ?_
                    refine lv_icmp_eq (tgt := 29) hx hb dX4_nextPlugged_24 (by decide) (fun c20 => ?_) (fun c20 => ?_)
                    · refine lv_iinc (v := 11) (lv' := [(1, .int 11), (2, .int (sp_X4_sensorIn (μ.1 j)  (((μ.1 j 2) + 10) - ((μ.1 j 2) + 10) / 12 * 12))), (0, .ref (E.1 (iS j)))]) hx hb dX4_nextPlugged_29 hl (k := 1) rfl (by decide) (by decide) rfl (fun ls hl => ?_)
                      refine lv_goto (tgt := 2) hx hb dX4_nextPlugged_32 (by decide) ?_
                      refine lv_iload_n hx hb dX4_nextPlugged_2 rfl (lv_at hl 0 rfl) ?_
                      refine lv_bipush (v := 12) hx hb dX4_nextPlugged_3 (by decide) ?_
                      refine lv_icmp_gt (tgt := 35) hx hb dX4_nextPlugged_5 (by decide) (fun c => absurd c (by decide)) (fun _ => ?_)
                      refine lv_aload_n hx hb dX4_nextPlugged_8 rfl (lv_at hl 2 rfl) ?_
                      refine lv_aload_n hx hb dX4_nextPlugged_9 rfl (lv_at hl 2 rfl) ?_
                      refine g_f hw hf (lt_iS hj) (c_iS E _ hj) rfl inlX4 2 (by decide) rfl q47 rfl dX4_nextPlugged_10 ?_
                      refine lv_iload_n hx hb dX4_nextPlugged_13 rfl (lv_at hl 0 rfl) ?_
                      refine lv_iadd hx hb dX4_nextPlugged_14 ?_
                      refine lv_bipush (v := 12) hx hb dX4_nextPlugged_15 (by decide) ?_
                      refine lv_irem hx hb dX4_nextPlugged_17 (by decide) ?_
                      refine c_iR hw (run_V (As := [.int (((μ.1 j 2) + 11) - ((μ.1 j 2) + 11) / 12 * 12)]) (rest := []) (np := 1) hf hw (k_X4_sensorIn l E _ hj (((μ.1 j 2) + 11) - ((μ.1 j 2) + 11) / 12 * 12)  ) ⟨gl_V q134 q135 q136 q22 q137, by decide +kernel⟩ ⟨rfl, rfl, Nat.le_of_ble_eq_true rfl, Nat.le_of_ble_eq_true rfl⟩ (lt_iS hj) (c_iS E _ hj) rfl rfl hl.1 rfl (Nat.le_of_ble_eq_true rfl) dX4_nextPlugged_18 ⟨Nat.zero_le _, Nat.zero_le _⟩) (fun H locs hw => ?_)
                      refine lv_istore_n (lv' := [(2, .int (sp_X4_sensorIn (μ.1 j)  (((μ.1 j 2) + 11) - ((μ.1 j 2) + 11) / 12 * 12))), (1, .int 11), (0, .ref (E.1 (iS j)))]) hx hb dX4_nextPlugged_21 rfl hl (by decide) rfl (fun ls hl => ?_)
                      refine lv_iload_n hx hb dX4_nextPlugged_22 rfl (lv_at hl 0 rfl) ?_
                      refine lv_iconst (v := (-1)) hx hb dX4_nextPlugged_23 (by decide) ?_
                      refine lv_icmp_eq (tgt := 29) hx hb dX4_nextPlugged_24 (by decide) (fun c22 => ?_) (fun c22 => ?_)
                      · refine lv_iinc (v := 12) (lv' := [(1, .int 12), (2, .int (sp_X4_sensorIn (μ.1 j)  (((μ.1 j 2) + 11) - ((μ.1 j 2) + 11) / 12 * 12))), (0, .ref (E.1 (iS j)))]) hx hb dX4_nextPlugged_29 hl (k := 1) rfl (by decide) (by decide) rfl (fun ls hl => ?_)
                        refine lv_goto (tgt := 2) hx hb dX4_nextPlugged_32 (by decide) ?_
                        refine lv_iload_n hx hb dX4_nextPlugged_2 rfl (lv_at hl 0 rfl) ?_
                        refine lv_bipush (v := 12) hx hb dX4_nextPlugged_3 (by decide) ?_
                        refine lv_icmp_gt (tgt := 35) hx hb dX4_nextPlugged_5 (by decide) (fun c => absurd c (by decide)) (fun _ => ?_)
                        refine lv_aload_n hx hb dX4_nextPlugged_8 rfl (lv_at hl 2 rfl) ?_
                        refine lv_aload_n hx hb dX4_nextPlugged_9 rfl (lv_at hl 2 rfl) ?_
                        refine g_f hw hf (lt_iS hj) (c_iS E _ hj) rfl inlX4 2 (by decide) rfl q47 rfl dX4_nextPlugged_10 ?_
                        refine lv_iload_n hx hb dX4_nextPlugged_13 rfl (lv_at hl 0 rfl) ?_
                        refine lv_iadd hx hb dX4_nextPlugged_14 ?_
                        refine lv_bipush (v := 12) hx hb dX4_nextPlugged_15 (by decide) ?_
                        refine lv_irem hx hb dX4_nextPlugged_17 (by decide) ?_
                        refine c_iR hw (run_V (As := [.int (((μ.1 j 2) + 12) - ((μ.1 j 2) + 12) / 12 * 12)]) (rest := []) (np := 1) hf hw (k_X4_sensorIn l E _ hj (((μ.1 j 2) + 12) - ((μ.1 j 2) + 12) / 12 * 12)  ) ⟨gl_V q134 q135 q136 q22 q137, by decide +kernel⟩ ⟨rfl, rfl, Nat.le_of_ble_eq_true rfl, Nat.le_of_ble_eq_true rfl⟩ (lt_iS hj) (c_iS E _ hj) rfl rfl hl.1 rfl (Nat.le_of_ble_eq_true rfl) dX4_nextPlugged_18 ⟨Nat.zero_le _, Nat.zero_le _⟩) (fun H locs hw => ?_)
                        refine lv_istore_n (lv' := [(2, .int (sp_X4_sensorIn (μ.1 j)  (((μ.1 j 2) + 12) - ((μ.1 j 2) + 12) / 12 * 12))), (1, .int 12), (0, .ref (E.1 (iS j)))]) hx hb dX4_nextPlugged_21 rfl hl (by decide) rfl (fun ls hl => ?_)
                        refine lv_iload_n hx hb dX4_nextPlugged_22 rfl (lv_at hl 0 rfl) ?_
                        refine lv_iconst (v := (-1)) hx hb dX4_nextPlugged_23 (by decide) ?_
                        refine lv_icmp_eq (tgt := 29) hx hb dX4_nextPlugged_24 (by decide) (fun c24 => ?_) (fun c24 => ?_)
                        · refine lv_iinc (v := 13) (lv' := [(1, .int 13), (2, .int (sp_X4_sensorIn (μ.1 j)  (((μ.1 j 2) + 12) - ((μ.1 j 2) + 12) / 12 * 12))), (0, .ref (E.1 (iS j)))]) hx hb dX4_nextPlugged_29 hl (k := 1) rfl (by decide) (by decide) rfl (fun ls hl => ?_)
                          refine lv_goto (tgt := 2) hx hb dX4_nextPlugged_32 (by decide) ?_
                          refine lv_iload_n hx hb dX4_nextPlugged_2 rfl (lv_at hl 0 rfl) ?_
                          refine lv_bipush (v := 12) hx hb dX4_nextPlugged_3 (by decide) ?_
                          refine lv_icmp_gt (tgt := 35) hx hb dX4_nextPlugged_5 (by decide) (fun _ => ?_) (fun c => absurd c (by decide))
                          refine lv_iconst (v := (-1)) hx hb dX4_nextPlugged_35 (by decide) ?_
                          exact e_i hf hr hlocks hw rfl (congrArg (fun z => (z, μ)) ((if_pos c2).trans ((if_pos c4).trans ((if_pos c6).trans ((if_pos c8).trans ((if_pos c10).trans ((if_pos c12).trans ((if_pos c14).trans ((if_pos c16).trans ((if_pos c18).trans ((if_pos c20).trans ((if_pos c22).trans ((if_pos c24).trans rfl))))))))))))) dX4_nextPlugged_36
                        · refine lv_iload_n hx hb dX4_nextPlugged_27 rfl (lv_at hl 0 rfl) ?_
                          exact e_i hf hr hlocks hw rfl (congrArg (fun z => (z, μ)) ((if_pos c2).trans ((if_pos c4).trans ((if_pos c6).trans ((if_pos c8).trans ((if_pos c10).trans ((if_pos c12).trans ((if_pos c14).trans ((if_pos c16).trans ((if_pos c18).trans ((if_pos c20).trans ((if_pos c22).trans ((if_neg c24).trans rfl))))))))))))) dX4_nextPlugged_28
                      · refine lv_iload_n hx hb dX4_nextPlugged_27 rfl (lv_at hl 0 rfl) ?_
                        exact e_i hf hr hlocks hw rfl (congrArg (fun z => (z, μ)) ((if_pos c2).trans ((if_pos c4).trans ((if_pos c6).trans ((if_pos c8).trans ((if_pos c10).trans ((if_pos c12).trans ((if_pos c14).trans ((if_pos c16).trans ((if_pos c18).trans ((if_pos c20).trans ((if_neg c22).trans rfl)))))))))))) dX4_nextPlugged_28
                    · refine lv_iload_n hx hb dX4_nextPlugged_27 rfl (lv_at hl 0 rfl) ?_
                      exact e_i hf hr hlocks hw rfl (congrArg (fun z => (z, μ)) ((if_pos c2).trans ((if_pos c4).trans ((if_pos c6).trans ((if_pos c8).trans ((if_pos c10).trans ((if_pos c12).trans ((if_pos c14).trans ((if_pos c16).trans ((if_pos c18).trans ((if_neg c20).trans rfl))))))))))) dX4_nextPlugged_28
                  · refine lv_iload_n hx hb dX4_nextPlugged_27 rfl (lv_at hl 0 rfl) ?_
                    exact e_i hf hr hlocks hw rfl (congrArg (fun z => (z, μ)) ((if_pos c2).trans ((if_pos c4).trans ((if_pos c6).trans ((if_pos c8).trans ((if_pos c10).trans ((if_pos c12).trans ((if_pos c14).trans ((if_pos c16).trans ((if_neg c18).trans rfl)))))))))) dX4_nextPlugged_28
                · refine lv_iload_n hx hb dX4_nextPlugged_27 rfl (lv_at hl 0 rfl) ?_
                  exact e_i hf hr hlocks hw rfl (congrArg (fun z => (z, μ)) ((if_pos c2).trans ((if_pos c4).trans ((if_pos c6).trans ((if_pos c8).trans ((if_pos c10).trans ((if_pos c12).trans ((if_pos c14).trans ((if_neg c16).trans rfl))))))))) dX4_nextPlugged_28
              · refine lv_iload_n hx hb dX4_nextPlugged_27 rfl (lv_at hl 0 rfl) ?_
                exact e_i hf hr hlocks hw rfl (congrArg (fun z => (z, μ)) ((if_pos c2).trans ((if_pos c4).trans ((if_pos c6).trans ((if_pos c8).trans ((if_pos c10).trans ((if_pos c12).trans ((if_neg c14).trans rfl)))))))) dX4_nextPlugged_28
            · refine lv_iload_n hx hb dX4_nextPlugged_27 rfl (lv_at hl 0 rfl) ?_
              exact e_i hf hr hlocks hw rfl (congrArg (fun z => (z, μ)) ((if_pos c2).trans ((if_pos c4).trans ((if_pos c6).trans ((if_pos c8).trans ((if_pos c10).trans ((if_neg c12).trans rfl))))))) dX4_nextPlugged_28
          · refine lv_iload_n hx hb dX4_nextPlugged_27 rfl (lv_at hl 0 rfl) ?_
            exact e_i hf hr hlocks hw rfl (congrArg (fun z => (z, μ)) ((if_pos c2).trans ((if_pos c4).trans ((if_pos c6).trans ((if_pos c8).trans ((if_neg c10).trans rfl)))))) dX4_nextPlugged_28
        · refine lv_iload_n hx hb dX4_nextPlugged_27 rfl (lv_at hl 0 rfl) ?_
          exact e_i hf hr hlocks hw rfl (congrArg (fun z => (z, μ)) ((if_pos c2).trans ((if_pos c4).trans ((if_pos c6).trans ((if_neg c8).trans rfl))))) dX4_nextPlugged_28
      · refine lv_iload_n hx hb dX4_nextPlugged_27 rfl (lv_at hl 0 rfl) ?_
        exact e_i hf hr hlocks hw rfl (congrArg (fun z => (z, μ)) ((if_pos c2).trans ((if_pos c4).trans ((if_neg c6).trans rfl)))) dX4_nextPlugged_28
    · refine lv_iload_n hx hb dX4_nextPlugged_27 rfl (lv_at hl 0 rfl) ?_
      exact e_i hf hr hlocks hw rfl (congrArg (fun z => (z, μ)) ((if_pos c2).trans ((if_neg c4).trans rfl))) dX4_nextPlugged_28
  · refine lv_iload_n hx hb dX4_nextPlugged_27 rfl (lv_at hl 0 rfl) ?_
    exact e_i hf hr hlocks hw rfl (congrArg (fun z => (z, μ)) ((if_neg c2).trans rfl)) dX4_nextPlugged_28
def sp_X4_canBring (g : Nat → Int32) (n : Nat) (w : Int32) : Int32 :=
  oc (sp_X4_tableAt g  (g (sF n 0))) (
    0) (fun t2 =>
    if (sp_X5_goesTo g t2 w : Int32) = 0 then
      0
    else
      1)
set_option maxHeartbeats 4000000 in
set_option maxRecDepth 100000 in
theorem k_X4_canBring (l : Launch) (E : En) (μ : Mu) {j : Nat} (hj : j < 6) {n : Nat} (hn : n < 6) (w : Int32)  : MtI l yX4_canBring cX4_canBring 4 .boolean ({ frames := 2, cells := 0, slots := 0, locals := 42 }) [.ref (E.1 (iS j)), .ref (E.1 (iN j n)), .int (w)] E μ ((sp_X4_canBring (μ.1 j) n w), μ) := by
  refine mt_of (by decide +kernel) (Nat.le_of_ble_eq_true rfl) ?_
  intro p e s m args below meth c ls hf hr hlocks hl hw
  have hx := hf.1
  have hb := hf.2.1
  have hl : lv_has ls 4 [(0, .ref (E.1 (iS j))), (1, .ref (E.1 (iN j n))), (2, .int (w))] := hl
  refine lv_aload_n hx hb dX4_canBring_0 rfl (lv_at hl 0 rfl) ?_
  refine lv_aload_n hx hb dX4_canBring_1 rfl (lv_at hl 1 rfl) ?_
  refine g_f hw hf (lt_iN hj hn) (c_iN E _ hj hn) rfl inlX3 0 (by decide) rfl q434 rfl dX4_canBring_2 ?_
  refine c_q hw (run_V (As := [.int (μ.1 j (sF n 0))]) (rest := []) (np := 1) hf hw (k_X4_tableAt l E _ hj (μ.1 j (sF n 0))  ) ⟨gl_V q536 q122 q123 q22 q124, by decide +kernel⟩ ⟨rfl, rfl, Nat.le_of_ble_eq_true rfl, Nat.le_of_ble_eq_true rfl⟩ (lt_iS hj) (c_iS E _ hj) rfl rfl hl.1 rfl (Nat.le_of_ble_eq_true rfl) dX4_canBring_5 ⟨Nat.zero_le _, Nat.zero_le _⟩) (fun H locs hw => ?_)
  rcases o1 : sp_X4_tableAt (μ.1 j)  (μ.1 j (sF n 0)) with _ | t2
  · refine W.eq (g2 := F0 m 8 ls [.null]) rfl ?_
    refine lv_astore_nN (lv' := [(3, .null), (0, .ref (E.1 (iS j))), (1, .ref (E.1 (iN j n))), (2, .int (w))]) hx hb dX4_canBring_8 rfl hl (by decide) rfl (fun ls hl => ?_)
    refine lv_aload_nN hx hb dX4_canBring_9 rfl (lv_at hl 0 rfl) ?_
    refine lv_ifnullN (tgt := 25) hx hb dX4_canBring_10 (by decide) ?_
    refine lv_iconst (v := 0) hx hb dX4_canBring_25 (by decide) ?_
    exact e_i hf hr hlocks hw rfl (congrArg (fun z => (z, μ)) ((oc_none o1).trans rfl)) dX4_canBring_26
  · have ht3 : t2 < 3 := (b_X4_tableAt o1)
    refine W.eq (g2 := F0 m 8 ls [.ref (E.1 (iT j t2))]) rfl ?_
    refine lv_astore_n (lv' := [(3, .ref (E.1 (iT j t2))), (0, .ref (E.1 (iS j))), (1, .ref (E.1 (iN j n))), (2, .int (w))]) hx hb dX4_canBring_8 rfl hl (by decide) rfl (fun ls hl => ?_)
    refine lv_aload_n hx hb dX4_canBring_9 rfl (lv_at hl 0 rfl) ?_
    refine lv_ifnull hx hb dX4_canBring_10 ?_
    refine lv_aload_n hx hb dX4_canBring_13 rfl (lv_at hl 0 rfl) ?_
    refine lv_iload_n hx hb dX4_canBring_14 rfl (lv_at hl 3 rfl) ?_
    refine c_iR hw (run_V (As := [.int (w)]) (rest := []) (np := 1) hf hw (k_X5_goesTo l E _ hj ht3 w  ) ⟨gl_V q537 q178 q179 q54 q180, by decide +kernel⟩ ⟨rfl, rfl, Nat.le_of_ble_eq_true rfl, Nat.le_of_ble_eq_true rfl⟩ (lt_iT hj ht3) (c_iT E _ hj ht3) rfl rfl hl.1 rfl (Nat.le_of_ble_eq_true rfl) dX4_canBring_15 ⟨Nat.zero_le _, Nat.zero_le _⟩) (fun H locs hw => ?_)
    refine lv_if_eq (tgt := 25) hx hb dX4_canBring_18 (by decide) (fun c4 => ?_) (fun c4 => ?_)
    · refine lv_iconst (v := 0) hx hb dX4_canBring_25 (by decide) ?_
      exact e_i hf hr hlocks hw rfl (congrArg (fun z => (z, μ)) ((oc_some o1).trans ((if_pos c4).trans rfl))) dX4_canBring_26
    · refine lv_iconst (v := 1) hx hb dX4_canBring_21 (by decide) ?_
      refine lv_goto (tgt := 26) hx hb dX4_canBring_22 (by decide) ?_
      exact e_i hf hr hlocks hw rfl (congrArg (fun z => (z, μ)) ((oc_some o1).trans ((if_neg c4).trans rfl))) dX4_canBring_26
