/-! ===== Sensor ===== -/
def sp_X3_isPlugged (g : Nat → Int32) (n : Nat)  : Int32 :=
  if (g (sF n 6) : Int32) = (-1) then
    0
  else
    1
set_option maxHeartbeats 4000000 in
set_option maxRecDepth 100000 in
theorem k_X3_isPlugged (l : Launch) (E : En) (μ : Mu) {j : Nat} (hj : j < 6) {n : Nat} (hn : n < 6)   : MtI l yX3_isPlugged cX3_isPlugged 1 .boolean ({ frames := 0, cells := 0, slots := 0, locals := 0 }) [.ref (E.1 (iN j n))] E μ ((sp_X3_isPlugged (μ.1 j) n), μ) := by
  refine mt_of (by decide +kernel) (Nat.le_of_ble_eq_true rfl) ?_
  intro p e s m args below meth c ls hf hr hlocks hl hw
  have hx := hf.1
  have hb := hf.2.1
  have hl : lv_has ls 1 [(0, .ref (E.1 (iN j n)))] := hl
  refine lv_aload_n hx hb dX3_isPlugged_0 rfl (lv_at hl 0 rfl) ?_
  refine g_f hw hf (lt_iN hj hn) (c_iN E _ hj hn) rfl inlX3 6 (by decide) rfl q69 rfl dX3_isPlugged_1 ?_
  refine lv_iconst (v := (-1)) hx hb dX3_isPlugged_4 (by decide) ?_
  refine lv_icmp_eq (tgt := 12) hx hb dX3_isPlugged_5 (by decide) (fun c1 => ?_) (fun c1 => ?_)
  · refine lv_iconst (v := 0) hx hb dX3_isPlugged_12 (by decide) ?_
    exact e_i hf hr hlocks hw rfl (congrArg (fun z => (z, μ)) ((if_pos c1).trans rfl)) dX3_isPlugged_13
  · refine lv_iconst (v := 1) hx hb dX3_isPlugged_8 (by decide) ?_
    refine lv_goto (tgt := 13) hx hb dX3_isPlugged_9 (by decide) ?_
    exact e_i hf hr hlocks hw rfl (congrArg (fun z => (z, μ)) ((if_neg c1).trans rfl)) dX3_isPlugged_13
theorem n_X3_isPlugged (μ : Mu) (j : Nat) (n : Nat)   : (sp_X3_isPlugged (μ.1 j) n) = bz (¬ (μ.1 j (sF n 6)) = -1) := by
  unfold sp_X3_isPlugged bz
  repeat' (first | rfl | split)
  all_goals (first | rfl | (exfalso; simp_all; done) | (exfalso; simp only [Int32.le_iff_toInt_le, Int32.lt_iff_toInt_lt, Int32.toInt_zero] at *; omega))
theorem kn_X3_isPlugged (l : Launch) (E : En) (μ : Mu) {j : Nat} (hj : j < 6) {n : Nat} (hn : n < 6)   : MtI l yX3_isPlugged cX3_isPlugged 1 .boolean ({ frames := 0, cells := 0, slots := 0, locals := 0 }) [.ref (E.1 (iN j n))] E μ (bz (¬ (μ.1 j (sF n 6)) = -1), μ) := by
  rw [← n_X3_isPlugged μ j n ]
  exact k_X3_isPlugged l E μ hj hn  
def sp_X3_fits (g : Nat → Int32) (n : Nat) (w : Int32) : Int32 :=
  if (w : Int32) = 3 then
    1
  else
    if (g (sF n 1) : Int32) = 2 + w then
      1
    else
      0
set_option maxHeartbeats 4000000 in
set_option maxRecDepth 100000 in
theorem k_X3_fits (l : Launch) (E : En) (μ : Mu) {j : Nat} (hj : j < 6) {n : Nat} (hn : n < 6) (w : Int32)  : MtI l yX3_fits cX3_fits 2 .boolean ({ frames := 0, cells := 0, slots := 0, locals := 0 }) [.ref (E.1 (iN j n)), .int (w)] E μ ((sp_X3_fits (μ.1 j) n w), μ) := by
  refine mt_of (by decide +kernel) (Nat.le_of_ble_eq_true rfl) ?_
  intro p e s m args below meth c ls hf hr hlocks hl hw
  have hx := hf.1
  have hb := hf.2.1
  have hl : lv_has ls 2 [(0, .ref (E.1 (iN j n))), (1, .int (w))] := hl
  refine lv_iload_n hx hb dX3_fits_0 rfl (lv_at hl 1 rfl) ?_
  refine lv_iconst (v := 3) hx hb dX3_fits_1 (by decide) ?_
  refine lv_icmp_eq (tgt := 15) hx hb dX3_fits_2 (by decide) (fun c1 => ?_) (fun c1 => ?_)
  · refine lv_iconst (v := 1) hx hb dX3_fits_15 (by decide) ?_
    refine lv_goto (tgt := 20) hx hb dX3_fits_16 (by decide) ?_
    exact e_i hf hr hlocks hw rfl (congrArg (fun z => (z, μ)) ((if_pos c1).trans rfl)) dX3_fits_20
  · refine lv_aload_n hx hb dX3_fits_5 rfl (lv_at hl 0 rfl) ?_
    refine g_f hw hf (lt_iN hj hn) (c_iN E _ hj hn) rfl inlX3 1 (by decide) rfl q228 rfl dX3_fits_6 ?_
    refine lv_iconst (v := 2) hx hb dX3_fits_9 (by decide) ?_
    refine lv_iload_n hx hb dX3_fits_10 rfl (lv_at hl 1 rfl) ?_
    refine lv_iadd hx hb dX3_fits_11 ?_
    refine lv_icmp_ne (tgt := 19) hx hb dX3_fits_12 (by decide) (fun c2 => ?_) (fun c2 => ?_)
    · refine lv_iconst (v := 0) hx hb dX3_fits_19 (by decide) ?_
      exact e_i hf hr hlocks hw rfl (congrArg (fun z => (z, μ)) ((if_neg c1).trans ((if_neg c2).trans rfl))) dX3_fits_20
    · refine lv_iconst (v := 1) hx hb dX3_fits_15 (by decide) ?_
      refine lv_goto (tgt := 20) hx hb dX3_fits_16 (by decide) ?_
      exact e_i hf hr hlocks hw rfl (congrArg (fun z => (z, μ)) ((if_neg c1).trans ((if_pos c2).trans rfl))) dX3_fits_20
theorem n_X3_fits (μ : Mu) (j : Nat) (n : Nat) (w : Int32)  : (sp_X3_fits (μ.1 j) n w) = bz (w = 3 ∨ (μ.1 j (sF n 1)) = 2 + w) := by
  unfold sp_X3_fits bz
  repeat' (first | rfl | split)
  all_goals (first | rfl | (exfalso; simp_all; done) | (exfalso; simp only [Int32.le_iff_toInt_le, Int32.lt_iff_toInt_lt, Int32.toInt_zero] at *; omega))
theorem kn_X3_fits (l : Launch) (E : En) (μ : Mu) {j : Nat} (hj : j < 6) {n : Nat} (hn : n < 6) (w : Int32)  : MtI l yX3_fits cX3_fits 2 .boolean ({ frames := 0, cells := 0, slots := 0, locals := 0 }) [.ref (E.1 (iN j n)), .int (w)] E μ (bz (w = 3 ∨ (μ.1 j (sF n 1)) = 2 + w), μ) := by
  rw [← n_X3_fits μ j n w ]
  exact k_X3_fits l E μ hj hn w 
def sp_X3_isCompensated (g : Nat → Int32) (n : Nat)  : Int32 :=
  if (g (sF n 1) : Int32) = 3 then
    1
  else
    0
set_option maxHeartbeats 4000000 in
set_option maxRecDepth 100000 in
theorem k_X3_isCompensated (l : Launch) (E : En) (μ : Mu) {j : Nat} (hj : j < 6) {n : Nat} (hn : n < 6)   : MtI l yX3_isCompensated cX3_isCompensated 1 .boolean ({ frames := 0, cells := 0, slots := 0, locals := 0 }) [.ref (E.1 (iN j n))] E μ ((sp_X3_isCompensated (μ.1 j) n), μ) := by
  refine mt_of (by decide +kernel) (Nat.le_of_ble_eq_true rfl) ?_
  intro p e s m args below meth c ls hf hr hlocks hl hw
  have hx := hf.1
  have hb := hf.2.1
  have hl : lv_has ls 1 [(0, .ref (E.1 (iN j n)))] := hl
  refine lv_aload_n hx hb dX3_isCompensated_0 rfl (lv_at hl 0 rfl) ?_
  refine g_f hw hf (lt_iN hj hn) (c_iN E _ hj hn) rfl inlX3 1 (by decide) rfl q228 rfl dX3_isCompensated_1 ?_
  refine lv_iconst (v := 3) hx hb dX3_isCompensated_4 (by decide) ?_
  refine lv_icmp_ne (tgt := 12) hx hb dX3_isCompensated_5 (by decide) (fun c1 => ?_) (fun c1 => ?_)
  · refine lv_iconst (v := 0) hx hb dX3_isCompensated_12 (by decide) ?_
    exact e_i hf hr hlocks hw rfl (congrArg (fun z => (z, μ)) ((if_neg c1).trans rfl)) dX3_isCompensated_13
  · refine lv_iconst (v := 1) hx hb dX3_isCompensated_8 (by decide) ?_
    refine lv_goto (tgt := 13) hx hb dX3_isCompensated_9 (by decide) ?_
    exact e_i hf hr hlocks hw rfl (congrArg (fun z => (z, μ)) ((if_pos c1).trans rfl)) dX3_isCompensated_13
theorem n_X3_isCompensated (μ : Mu) (j : Nat) (n : Nat)   : (sp_X3_isCompensated (μ.1 j) n) = bz ((μ.1 j (sF n 1)) = 3) := by
  unfold sp_X3_isCompensated bz
  repeat' (first | rfl | split)
  all_goals (first | rfl | (exfalso; simp_all; done) | (exfalso; simp only [Int32.le_iff_toInt_le, Int32.lt_iff_toInt_lt, Int32.toInt_zero] at *; omega))
theorem kn_X3_isCompensated (l : Launch) (E : En) (μ : Mu) {j : Nat} (hj : j < 6) {n : Nat} (hn : n < 6)   : MtI l yX3_isCompensated cX3_isCompensated 1 .boolean ({ frames := 0, cells := 0, slots := 0, locals := 0 }) [.ref (E.1 (iN j n))] E μ (bz ((μ.1 j (sF n 1)) = 3), μ) := by
  rw [← n_X3_isCompensated μ j n ]
  exact k_X3_isCompensated l E μ hj hn  
def sp_X3_hasWire (g : Nat → Int32) (n : Nat) (w : Int32) : Int32 :=
  if (w : Int32) < 0 then
    0
  else
    if (g (sF n 1) : Int32) ≤ w then
      0
    else
      1
set_option maxHeartbeats 4000000 in
set_option maxRecDepth 100000 in
theorem k_X3_hasWire (l : Launch) (E : En) (μ : Mu) {j : Nat} (hj : j < 6) {n : Nat} (hn : n < 6) (w : Int32)  : MtI l yX3_hasWire cX3_hasWire 2 .boolean ({ frames := 0, cells := 0, slots := 0, locals := 0 }) [.ref (E.1 (iN j n)), .int (w)] E μ ((sp_X3_hasWire (μ.1 j) n w), μ) := by
  refine mt_of (by decide +kernel) (Nat.le_of_ble_eq_true rfl) ?_
  intro p e s m args below meth c ls hf hr hlocks hl hw
  have hx := hf.1
  have hb := hf.2.1
  have hl : lv_has ls 2 [(0, .ref (E.1 (iN j n))), (1, .int (w))] := hl
  refine lv_iload_n hx hb dX3_hasWire_0 rfl (lv_at hl 1 rfl) ?_
  refine lv_if_lt (tgt := 16) hx hb dX3_hasWire_1 (by decide) (fun c1 => ?_) (fun c1 => ?_)
  · refine lv_iconst (v := 0) hx hb dX3_hasWire_16 (by decide) ?_
    exact e_i hf hr hlocks hw rfl (congrArg (fun z => (z, μ)) ((if_pos c1).trans rfl)) dX3_hasWire_17
  · refine lv_iload_n hx hb dX3_hasWire_4 rfl (lv_at hl 1 rfl) ?_
    refine lv_aload_n hx hb dX3_hasWire_5 rfl (lv_at hl 0 rfl) ?_
    refine g_f hw hf (lt_iN hj hn) (c_iN E _ hj hn) rfl inlX3 1 (by decide) rfl q228 rfl dX3_hasWire_6 ?_
    refine lv_icmp_ge (tgt := 16) hx hb dX3_hasWire_9 (by decide) (fun c2 => ?_) (fun c2 => ?_)
    · refine lv_iconst (v := 0) hx hb dX3_hasWire_16 (by decide) ?_
      exact e_i hf hr hlocks hw rfl (congrArg (fun z => (z, μ)) ((if_neg c1).trans ((if_pos c2).trans rfl))) dX3_hasWire_17
    · refine lv_iconst (v := 1) hx hb dX3_hasWire_12 (by decide) ?_
      refine lv_goto (tgt := 17) hx hb dX3_hasWire_13 (by decide) ?_
      exact e_i hf hr hlocks hw rfl (congrArg (fun z => (z, μ)) ((if_neg c1).trans ((if_neg c2).trans rfl))) dX3_hasWire_17
theorem n_X3_hasWire (μ : Mu) (j : Nat) (n : Nat) (w : Int32)  : (sp_X3_hasWire (μ.1 j) n w) = bz (0 ≤ w ∧ w < (μ.1 j (sF n 1))) := by
  unfold sp_X3_hasWire bz
  repeat' (first | rfl | split)
  all_goals (first | rfl | (exfalso; simp_all; done) | (exfalso; simp only [Int32.le_iff_toInt_le, Int32.lt_iff_toInt_lt, Int32.toInt_zero] at *; omega))
theorem kn_X3_hasWire (l : Launch) (E : En) (μ : Mu) {j : Nat} (hj : j < 6) {n : Nat} (hn : n < 6) (w : Int32)  : MtI l yX3_hasWire cX3_hasWire 2 .boolean ({ frames := 0, cells := 0, slots := 0, locals := 0 }) [.ref (E.1 (iN j n)), .int (w)] E μ (bz (0 ≤ w ∧ w < (μ.1 j (sF n 1))), μ) := by
  rw [← n_X3_hasWire μ j n w ]
  exact k_X3_hasWire l E μ hj hn w 
def sp_X3_leadOf (g : Nat → Int32) (n : Nat) (w : Int32) : Int32 :=
  if (w : Int32) < 0 then
    0
  else
    if (4 : Int32) ≤ w then
      0
    else
      g (sF n (12 + w.toNatClampNeg))
set_option maxHeartbeats 4000000 in
set_option maxRecDepth 100000 in
theorem k_X3_leadOf (l : Launch) (E : En) (μ : Mu) {j : Nat} (hj : j < 6) {n : Nat} (hn : n < 6) (w : Int32)  : MtI l yX3_leadOf cX3_leadOf 2 .int ({ frames := 0, cells := 0, slots := 0, locals := 0 }) [.ref (E.1 (iN j n)), .int (w)] E μ ((sp_X3_leadOf (μ.1 j) n w), μ) := by
  refine mt_of (by decide +kernel) (Nat.le_of_ble_eq_true rfl) ?_
  intro p e s m args below meth c ls hf hr hlocks hl hw
  have hx := hf.1
  have hb := hf.2.1
  have hl : lv_has ls 2 [(0, .ref (E.1 (iN j n))), (1, .int (w))] := hl
  refine lv_iload_n hx hb dX3_leadOf_0 rfl (lv_at hl 1 rfl) ?_
  refine lv_if_lt (tgt := 22) hx hb dX3_leadOf_1 (by decide) (fun c1 => ?_) (fun c1 => ?_)
  · refine lv_iconst (v := 0) hx hb dX3_leadOf_22 (by decide) ?_
    exact e_i hf hr hlocks hw rfl (congrArg (fun z => (z, μ)) ((if_pos c1).trans rfl)) dX3_leadOf_23
  · refine lv_iload_n hx hb dX3_leadOf_4 rfl (lv_at hl 1 rfl) ?_
    refine lv_aload_n hx hb dX3_leadOf_5 rfl (lv_at hl 0 rfl) ?_
    refine g_f hw hf (lt_iN hj hn) (c_iN E _ hj hn) rfl inlX3 12 (by decide) rfl q70 rfl dX3_leadOf_6 ?_
    refine g_n hw hf (lt_iNl hj hn) (c_iNl E _ hj hn) (t0 := 0) (v := 4) rfl rfl dX3_leadOf_9 ?_
    refine lv_icmp_ge (tgt := 22) hx hb dX3_leadOf_10 (by decide) (fun c2 => ?_) (fun c2 => ?_)
    · refine lv_iconst (v := 0) hx hb dX3_leadOf_22 (by decide) ?_
      exact e_i hf hr hlocks hw rfl (congrArg (fun z => (z, μ)) ((if_neg c1).trans ((if_pos c2).trans rfl))) dX3_leadOf_23
    · refine lv_aload_n hx hb dX3_leadOf_13 rfl (lv_at hl 0 rfl) ?_
      refine g_f hw hf (lt_iN hj hn) (c_iN E _ hj hn) rfl inlX3 12 (by decide) rfl q70 rfl dX3_leadOf_14 ?_
      refine lv_iload_n hx hb dX3_leadOf_17 rfl (lv_at hl 1 rfl) ?_
      refine g_a hw hf (lt_iNl hj hn) (c_iNl E _ hj hn) (vin 4 4 (by decide) (by decide) rfl c1 c2) (tr_at (y := w.toNatClampNeg) (vin_lt (vin 4 4 (by decide) (by decide) rfl c1 c2)) rfl) dX3_leadOf_18 ?_
      refine lv_goto (tgt := 23) hx hb dX3_leadOf_19 (by decide) ?_
      exact e_i hf hr hlocks hw rfl (congrArg (fun z => (z, μ)) ((if_neg c1).trans ((if_neg c2).trans rfl))) dX3_leadOf_23
def sp_X3_setLead (μ : Mu) (j : Nat) (n : Nat) (w : Int32) (v : Int32) : Mu :=
  if (w : Int32) < 0 then
    μ
  else
    if (4 : Int32) ≤ w then
      μ
    else
      pM μ j (sF n (12 + w.toNatClampNeg)) v
set_option maxHeartbeats 4000000 in
set_option maxRecDepth 100000 in
theorem k_X3_setLead (l : Launch) (E : En) (μ : Mu) {j : Nat} (hj : j < 6) {n : Nat} (hn : n < 6) (w : Int32) (v : Int32)  : MtV l yX3_setLead cX3_setLead 3 ({ frames := 0, cells := 0, slots := 0, locals := 0 }) [.ref (E.1 (iN j n)), .int (w), .int (v)] E μ (sp_X3_setLead μ j n w v) := by
  refine mt_of (by decide +kernel) (Nat.le_of_ble_eq_true rfl) ?_
  intro p e s m args below meth c ls hf hr hlocks hl hw
  have hx := hf.1
  have hb := hf.2.1
  have hl : lv_has ls 3 [(0, .ref (E.1 (iN j n))), (1, .int (w)), (2, .int (v))] := hl
  refine lv_iload_n hx hb dX3_setLead_0 rfl (lv_at hl 1 rfl) ?_
  refine lv_if_lt (tgt := 20) hx hb dX3_setLead_1 (by decide) (fun c1 => ?_) (fun c1 => ?_)
  · exact e_v hf hr hlocks hw ((if_pos c1).trans rfl) dX3_setLead_20
  · refine lv_iload_n hx hb dX3_setLead_4 rfl (lv_at hl 1 rfl) ?_
    refine lv_aload_n hx hb dX3_setLead_5 rfl (lv_at hl 0 rfl) ?_
    refine g_f hw hf (lt_iN hj hn) (c_iN E _ hj hn) rfl inlX3 12 (by decide) rfl q70 rfl dX3_setLead_6 ?_
    refine g_n hw hf (lt_iNl hj hn) (c_iNl E _ hj hn) (t0 := 0) (v := 4) rfl rfl dX3_setLead_9 ?_
    refine lv_icmp_ge (tgt := 20) hx hb dX3_setLead_10 (by decide) (fun c2 => ?_) (fun c2 => ?_)
    · exact e_v hf hr hlocks hw ((if_neg c1).trans ((if_pos c2).trans rfl)) dX3_setLead_20
    · refine lv_aload_n hx hb dX3_setLead_13 rfl (lv_at hl 0 rfl) ?_
      refine g_f hw hf (lt_iN hj hn) (c_iN E _ hj hn) rfl inlX3 12 (by decide) rfl q70 rfl dX3_setLead_14 ?_
      refine lv_iload_n hx hb dX3_setLead_17 rfl (lv_at hl 1 rfl) ?_
      refine lv_iload_n hx hb dX3_setLead_18 rfl (lv_at hl 2 rfl) ?_
      refine p_a hw hf (lt_iNl hj hn) (c_iNl E _ hj hn) (vin 4 4 (by decide) (by decide) rfl c1 c2) (s_iNl E _ hj hn (vin_lt (vin 4 4 (by decide) (by decide) rfl c1 c2)) _) dX3_setLead_19 (fun H locs hw => ?_)
      exact e_v hf hr hlocks hw ((if_neg c1).trans ((if_neg c2).trans rfl)) dX3_setLead_20
def sp_X3_strainOf (g : Nat → Int32) (n : Nat) (w : Int32) : Int32 :=
  if (w : Int32) < 0 then
    0
  else
    if (3 : Int32) ≤ w then
      0
    else
      g (sF n (16 + w.toNatClampNeg))
set_option maxHeartbeats 4000000 in
set_option maxRecDepth 100000 in
theorem k_X3_strainOf (l : Launch) (E : En) (μ : Mu) {j : Nat} (hj : j < 6) {n : Nat} (hn : n < 6) (w : Int32)  : MtI l yX3_strainOf cX3_strainOf 2 .int ({ frames := 0, cells := 0, slots := 0, locals := 0 }) [.ref (E.1 (iN j n)), .int (w)] E μ ((sp_X3_strainOf (μ.1 j) n w), μ) := by
  refine mt_of (by decide +kernel) (Nat.le_of_ble_eq_true rfl) ?_
  intro p e s m args below meth c ls hf hr hlocks hl hw
  have hx := hf.1
  have hb := hf.2.1
  have hl : lv_has ls 2 [(0, .ref (E.1 (iN j n))), (1, .int (w))] := hl
  refine lv_iload_n hx hb dX3_strainOf_0 rfl (lv_at hl 1 rfl) ?_
  refine lv_if_lt (tgt := 22) hx hb dX3_strainOf_1 (by decide) (fun c1 => ?_) (fun c1 => ?_)
  · refine lv_iconst (v := 0) hx hb dX3_strainOf_22 (by decide) ?_
    exact e_i hf hr hlocks hw rfl (congrArg (fun z => (z, μ)) ((if_pos c1).trans rfl)) dX3_strainOf_23
  · refine lv_iload_n hx hb dX3_strainOf_4 rfl (lv_at hl 1 rfl) ?_
    refine lv_aload_n hx hb dX3_strainOf_5 rfl (lv_at hl 0 rfl) ?_
    refine g_f hw hf (lt_iN hj hn) (c_iN E _ hj hn) rfl inlX3 13 (by decide) rfl q71 rfl dX3_strainOf_6 ?_
    refine g_n hw hf (lt_iNs hj hn) (c_iNs E _ hj hn) (t0 := 0) (v := 3) rfl rfl dX3_strainOf_9 ?_
    refine lv_icmp_ge (tgt := 22) hx hb dX3_strainOf_10 (by decide) (fun c2 => ?_) (fun c2 => ?_)
    · refine lv_iconst (v := 0) hx hb dX3_strainOf_22 (by decide) ?_
      exact e_i hf hr hlocks hw rfl (congrArg (fun z => (z, μ)) ((if_neg c1).trans ((if_pos c2).trans rfl))) dX3_strainOf_23
    · refine lv_aload_n hx hb dX3_strainOf_13 rfl (lv_at hl 0 rfl) ?_
      refine g_f hw hf (lt_iN hj hn) (c_iN E _ hj hn) rfl inlX3 13 (by decide) rfl q71 rfl dX3_strainOf_14 ?_
      refine lv_iload_n hx hb dX3_strainOf_17 rfl (lv_at hl 1 rfl) ?_
      refine g_a hw hf (lt_iNs hj hn) (c_iNs E _ hj hn) (vin 3 3 (by decide) (by decide) rfl c1 c2) (tr_at (y := w.toNatClampNeg) (vin_lt (vin 3 3 (by decide) (by decide) rfl c1 c2)) rfl) dX3_strainOf_18 ?_
      refine lv_goto (tgt := 23) hx hb dX3_strainOf_19 (by decide) ?_
      exact e_i hf hr hlocks hw rfl (congrArg (fun z => (z, μ)) ((if_neg c1).trans ((if_neg c2).trans rfl))) dX3_strainOf_23
def sp_X3_setStrain (μ : Mu) (j : Nat) (n : Nat) (w : Int32) (v : Int32) : Mu :=
  if (w : Int32) < 0 then
    μ
  else
    if (3 : Int32) ≤ w then
      μ
    else
      pM μ j (sF n (16 + w.toNatClampNeg)) v
set_option maxHeartbeats 4000000 in
set_option maxRecDepth 100000 in
theorem k_X3_setStrain (l : Launch) (E : En) (μ : Mu) {j : Nat} (hj : j < 6) {n : Nat} (hn : n < 6) (w : Int32) (v : Int32)  : MtV l yX3_setStrain cX3_setStrain 3 ({ frames := 0, cells := 0, slots := 0, locals := 0 }) [.ref (E.1 (iN j n)), .int (w), .int (v)] E μ (sp_X3_setStrain μ j n w v) := by
  refine mt_of (by decide +kernel) (Nat.le_of_ble_eq_true rfl) ?_
  intro p e s m args below meth c ls hf hr hlocks hl hw
  have hx := hf.1
  have hb := hf.2.1
  have hl : lv_has ls 3 [(0, .ref (E.1 (iN j n))), (1, .int (w)), (2, .int (v))] := hl
  refine lv_iload_n hx hb dX3_setStrain_0 rfl (lv_at hl 1 rfl) ?_
  refine lv_if_lt (tgt := 20) hx hb dX3_setStrain_1 (by decide) (fun c1 => ?_) (fun c1 => ?_)
  · exact e_v hf hr hlocks hw ((if_pos c1).trans rfl) dX3_setStrain_20
  · refine lv_iload_n hx hb dX3_setStrain_4 rfl (lv_at hl 1 rfl) ?_
    refine lv_aload_n hx hb dX3_setStrain_5 rfl (lv_at hl 0 rfl) ?_
    refine g_f hw hf (lt_iN hj hn) (c_iN E _ hj hn) rfl inlX3 13 (by decide) rfl q71 rfl dX3_setStrain_6 ?_
    refine g_n hw hf (lt_iNs hj hn) (c_iNs E _ hj hn) (t0 := 0) (v := 3) rfl rfl dX3_setStrain_9 ?_
    refine lv_icmp_ge (tgt := 20) hx hb dX3_setStrain_10 (by decide) (fun c2 => ?_) (fun c2 => ?_)
    · exact e_v hf hr hlocks hw ((if_neg c1).trans ((if_pos c2).trans rfl)) dX3_setStrain_20
    · refine lv_aload_n hx hb dX3_setStrain_13 rfl (lv_at hl 0 rfl) ?_
      refine g_f hw hf (lt_iN hj hn) (c_iN E _ hj hn) rfl inlX3 13 (by decide) rfl q71 rfl dX3_setStrain_14 ?_
      refine lv_iload_n hx hb dX3_setStrain_17 rfl (lv_at hl 1 rfl) ?_
      refine lv_iload_n hx hb dX3_setStrain_18 rfl (lv_at hl 2 rfl) ?_
      refine p_a hw hf (lt_iNs hj hn) (c_iNs E _ hj hn) (vin 3 3 (by decide) (by decide) rfl c1 c2) (s_iNs E _ hj hn (vin_lt (vin 3 3 (by decide) (by decide) rfl c1 c2)) _) dX3_setStrain_19 (fun H locs hw => ?_)
      exact e_v hf hr hlocks hw ((if_neg c1).trans ((if_neg c2).trans rfl)) dX3_setStrain_20
def sp_X3_isBroken (g : Nat → Int32) (n : Nat) (w : Int32) : Int32 :=
  if (((g (sF n 5)) >>> (w &&& 31)) &&& (1 : Int32) : Int32) = 1 then
    1
  else
    0
set_option maxHeartbeats 4000000 in
set_option maxRecDepth 100000 in
theorem k_X3_isBroken (l : Launch) (E : En) (μ : Mu) {j : Nat} (hj : j < 6) {n : Nat} (hn : n < 6) (w : Int32)  : MtI l yX3_isBroken cX3_isBroken 2 .boolean ({ frames := 0, cells := 0, slots := 0, locals := 0 }) [.ref (E.1 (iN j n)), .int (w)] E μ ((sp_X3_isBroken (μ.1 j) n w), μ) := by
  refine mt_of (by decide +kernel) (Nat.le_of_ble_eq_true rfl) ?_
  intro p e s m args below meth c ls hf hr hlocks hl hw
  have hx := hf.1
  have hb := hf.2.1
  have hl : lv_has ls 2 [(0, .ref (E.1 (iN j n))), (1, .int (w))] := hl
  refine lv_aload_n hx hb dX3_isBroken_0 rfl (lv_at hl 0 rfl) ?_
  refine g_f hw hf (lt_iN hj hn) (c_iN E _ hj hn) rfl inlX3 5 (by decide) rfl q418 rfl dX3_isBroken_1 ?_
  refine lv_iload_n hx hb dX3_isBroken_4 rfl (lv_at hl 1 rfl) ?_
  refine lv_ishr hx hb dX3_isBroken_5 ?_
  refine lv_iconst (v := 1) hx hb dX3_isBroken_6 (by decide) ?_
  refine lv_iand hx hb dX3_isBroken_7 ?_
  refine lv_iconst (v := 1) hx hb dX3_isBroken_8 (by decide) ?_
  refine lv_icmp_ne (tgt := 16) hx hb dX3_isBroken_9 (by decide) (fun c1 => ?_) (fun c1 => ?_)
  · refine lv_iconst (v := 0) hx hb dX3_isBroken_16 (by decide) ?_
    exact e_i hf hr hlocks hw rfl (congrArg (fun z => (z, μ)) ((if_neg c1).trans rfl)) dX3_isBroken_17
  · refine lv_iconst (v := 1) hx hb dX3_isBroken_12 (by decide) ?_
    refine lv_goto (tgt := 17) hx hb dX3_isBroken_13 (by decide) ?_
    exact e_i hf hr hlocks hw rfl (congrArg (fun z => (z, μ)) ((if_pos c1).trans rfl)) dX3_isBroken_17
theorem n_X3_isBroken (μ : Mu) (j : Nat) (n : Nat) (w : Int32)  : (sp_X3_isBroken (μ.1 j) n w) = bz ((μ.1 j (sF n 5)) >>> (w &&& 31) &&& 1 = 1) := by
  unfold sp_X3_isBroken bz
  repeat' (first | rfl | split)
  all_goals (first | rfl | (exfalso; simp_all; done) | (exfalso; simp only [Int32.le_iff_toInt_le, Int32.lt_iff_toInt_lt, Int32.toInt_zero] at *; omega))
theorem kn_X3_isBroken (l : Launch) (E : En) (μ : Mu) {j : Nat} (hj : j < 6) {n : Nat} (hn : n < 6) (w : Int32)  : MtI l yX3_isBroken cX3_isBroken 2 .boolean ({ frames := 0, cells := 0, slots := 0, locals := 0 }) [.ref (E.1 (iN j n)), .int (w)] E μ (bz ((μ.1 j (sF n 5)) >>> (w &&& 31) &&& 1 = 1), μ) := by
  rw [← n_X3_isBroken μ j n w ]
  exact k_X3_isBroken l E μ hj hn w 
def sp_X3_turnWire (μ : Mu) (j : Nat) (n : Nat) (w : Int32) : Mu :=
  pM μ j (sF n 5) ((μ.1 j (sF n 5)) ^^^ ((1 : Int32) <<< (w &&& 31)))
set_option maxHeartbeats 4000000 in
set_option maxRecDepth 100000 in
theorem k_X3_turnWire (l : Launch) (E : En) (μ : Mu) {j : Nat} (hj : j < 6) {n : Nat} (hn : n < 6) (w : Int32)  : MtV l yX3_turnWire cX3_turnWire 2 ({ frames := 0, cells := 0, slots := 0, locals := 0 }) [.ref (E.1 (iN j n)), .int (w)] E μ (sp_X3_turnWire μ j n w) := by
  refine mt_of (by decide +kernel) (Nat.le_of_ble_eq_true rfl) ?_
  intro p e s m args below meth c ls hf hr hlocks hl hw
  have hx := hf.1
  have hb := hf.2.1
  have hl : lv_has ls 2 [(0, .ref (E.1 (iN j n))), (1, .int (w))] := hl
  refine lv_aload_n hx hb dX3_turnWire_0 rfl (lv_at hl 0 rfl) ?_
  refine lv_dup hx hb dX3_turnWire_1 rfl ?_
  refine g_f hw hf (lt_iN hj hn) (c_iN E _ hj hn) rfl inlX3 5 (by decide) rfl q418 rfl dX3_turnWire_2 ?_
  refine lv_iconst (v := 1) hx hb dX3_turnWire_5 (by decide) ?_
  refine lv_iload_n hx hb dX3_turnWire_6 rfl (lv_at hl 1 rfl) ?_
  refine lv_ishl hx hb dX3_turnWire_7 ?_
  refine lv_ixor hx hb dX3_turnWire_8 ?_
  refine p_f hw hf (lt_iN hj hn) (c_iN E _ hj hn) rfl inlX3 tyX3_ok nmX3 5 (by decide) rfl q418 rfl rfl rfl (Nat.le_of_ble_eq_true rfl) (s_N_5 E _ hj hn _) dX3_turnWire_9 (fun H locs hw => ?_)
  exact e_v hf hr hlocks hw rfl dX3_turnWire_12
def sp_X3_watch (μ : Mu) (j : Nat) (n : Nat) (a : Int32) (b : Int32) (h : Int32) : Mu :=
  pM (pM (pM (pM μ j (sF n 7) a) j (sF n 8) b) j (sF n 9) h) j (sF n 10) (0 : Int32)
set_option maxHeartbeats 4000000 in
set_option maxRecDepth 100000 in
theorem k_X3_watch (l : Launch) (E : En) (μ : Mu) {j : Nat} (hj : j < 6) {n : Nat} (hn : n < 6) (a : Int32) (b : Int32) (h : Int32)  : MtV l yX3_watch cX3_watch 4 ({ frames := 0, cells := 0, slots := 0, locals := 0 }) [.ref (E.1 (iN j n)), .int (a), .int (b), .int (h)] E μ (sp_X3_watch μ j n a b h) := by
  refine mt_of (by decide +kernel) (Nat.le_of_ble_eq_true rfl) ?_
  intro p e s m args below meth c ls hf hr hlocks hl hw
  have hx := hf.1
  have hb := hf.2.1
  have hl : lv_has ls 4 [(0, .ref (E.1 (iN j n))), (1, .int (a)), (2, .int (b)), (3, .int (h))] := hl
  refine lv_aload_n hx hb dX3_watch_0 rfl (lv_at hl 0 rfl) ?_
  refine lv_iload_n hx hb dX3_watch_1 rfl (lv_at hl 1 rfl) ?_
  refine p_f hw hf (lt_iN hj hn) (c_iN E _ hj hn) rfl inlX3 tyX3_ok nmX3 7 (by decide) rfl q419 rfl rfl rfl (Nat.le_of_ble_eq_true rfl) (s_N_7 E _ hj hn _) dX3_watch_2 (fun H locs hw => ?_)
  refine lv_aload_n hx hb dX3_watch_5 rfl (lv_at hl 0 rfl) ?_
  refine lv_iload_n hx hb dX3_watch_6 rfl (lv_at hl 2 rfl) ?_
  refine p_f hw hf (lt_iN hj hn) (c_iN E _ hj hn) rfl inlX3 tyX3_ok nmX3 8 (by decide) rfl q420 rfl rfl rfl (Nat.le_of_ble_eq_true rfl) (s_N_8 E _ hj hn _) dX3_watch_7 (fun H locs hw => ?_)
  refine lv_aload_n hx hb dX3_watch_10 rfl (lv_at hl 0 rfl) ?_
  refine lv_iload_n hx hb dX3_watch_11 rfl (lv_at hl 3 rfl) ?_
  refine p_f hw hf (lt_iN hj hn) (c_iN E _ hj hn) rfl inlX3 tyX3_ok nmX3 9 (by decide) rfl q421 rfl rfl rfl (Nat.le_of_ble_eq_true rfl) (s_N_9 E _ hj hn _) dX3_watch_12 (fun H locs hw => ?_)
  refine lv_aload_n hx hb dX3_watch_15 rfl (lv_at hl 0 rfl) ?_
  refine lv_iconst (v := 0) hx hb dX3_watch_16 (by decide) ?_
  refine p_f hw hf (lt_iN hj hn) (c_iN E _ hj hn) rfl inlX3 tyX3_ok nmX3 10 (by decide) rfl q422 rfl rfl rfl (Nat.le_of_ble_eq_true rfl) (s_N_10 E _ hj hn _) dX3_watch_17 (fun H locs hw => ?_)
  exact e_v hf hr hlocks hw rfl dX3_watch_20
def sp_X3_begin (μ : Mu) (j : Nat) (n : Nat) (a : Int32) (b : Int32) (h : Int32) (g : Int32) : Mu :=
  sp_X3_watch (pM (pM (pM (pM (pM μ j (sF n 0) a) j (sF n 1) b) j (sF n 2) h) j (sF n 3) h) j (sF n 4) g) j n ((-200000) : Int32) (850000 : Int32) (0 : Int32)
set_option maxHeartbeats 4000000 in
set_option maxRecDepth 100000 in
theorem k_X3_begin (l : Launch) (E : En) (μ : Mu) {j : Nat} (hj : j < 6) {n : Nat} (hn : n < 6) (a : Int32) (b : Int32) (h : Int32) (g : Int32)  : MtV l yX3_begin cX3_begin 5 ({ frames := 1, cells := 0, slots := 0, locals := 23 }) [.ref (E.1 (iN j n)), .int (a), .int (b), .int (h), .int (g)] E μ (sp_X3_begin μ j n a b h g) := by
  refine mt_of (by decide +kernel) (Nat.le_of_ble_eq_true rfl) ?_
  intro p e s m args below meth c ls hf hr hlocks hl hw
  have hx := hf.1
  have hb := hf.2.1
  have hl : lv_has ls 5 [(0, .ref (E.1 (iN j n))), (1, .int (a)), (2, .int (b)), (3, .int (h)), (4, .int (g))] := hl
  refine lv_aload_n hx hb dX3_begin_0 rfl (lv_at hl 0 rfl) ?_
  refine lv_iload_n hx hb dX3_begin_1 rfl (lv_at hl 1 rfl) ?_
  refine p_f hw hf (lt_iN hj hn) (c_iN E _ hj hn) rfl inlX3 tyX3_ok nmX3 0 (by decide) rfl q414 rfl rfl rfl (Nat.le_of_ble_eq_true rfl) (s_N_0 E _ hj hn _) dX3_begin_2 (fun H locs hw => ?_)
  refine lv_aload_n hx hb dX3_begin_5 rfl (lv_at hl 0 rfl) ?_
  refine lv_iload_n hx hb dX3_begin_6 rfl (lv_at hl 2 rfl) ?_
  refine p_f hw hf (lt_iN hj hn) (c_iN E _ hj hn) rfl inlX3 tyX3_ok nmX3 1 (by decide) rfl q228 rfl rfl rfl (Nat.le_of_ble_eq_true rfl) (s_N_1 E _ hj hn _) dX3_begin_7 (fun H locs hw => ?_)
  refine lv_aload_n hx hb dX3_begin_10 rfl (lv_at hl 0 rfl) ?_
  refine lv_iload_n hx hb dX3_begin_11 rfl (lv_at hl 3 rfl) ?_
  refine p_f hw hf (lt_iN hj hn) (c_iN E _ hj hn) rfl inlX3 tyX3_ok nmX3 2 (by decide) rfl q415 rfl rfl rfl (Nat.le_of_ble_eq_true rfl) (s_N_2 E _ hj hn _) dX3_begin_12 (fun H locs hw => ?_)
  refine lv_aload_n hx hb dX3_begin_15 rfl (lv_at hl 0 rfl) ?_
  refine lv_iload_n hx hb dX3_begin_16 rfl (lv_at hl 3 rfl) ?_
  refine p_f hw hf (lt_iN hj hn) (c_iN E _ hj hn) rfl inlX3 tyX3_ok nmX3 3 (by decide) rfl q416 rfl rfl rfl (Nat.le_of_ble_eq_true rfl) (s_N_3 E _ hj hn _) dX3_begin_17 (fun H locs hw => ?_)
  refine lv_aload_n hx hb dX3_begin_20 rfl (lv_at hl 0 rfl) ?_
  refine lv_iload hx hb dX3_begin_21 (lv_at hl 4 rfl) ?_
  refine p_f hw hf (lt_iN hj hn) (c_iN E _ hj hn) rfl inlX3 tyX3_ok nmX3 4 (by decide) rfl q417 rfl rfl rfl (Nat.le_of_ble_eq_true rfl) (s_N_4 E _ hj hn _) dX3_begin_23 (fun H locs hw => ?_)
  refine lv_aload_n hx hb dX3_begin_26 rfl (lv_at hl 0 rfl) ?_
  refine lv_ldc hx hb hf.2.2.2.1 (hf.2.2.2.2 _ q467) dX3_begin_27 ?_
  refine lv_ldc hx hb hf.2.2.2.1 (hf.2.2.2.2 _ q468) dX3_begin_29 ?_
  refine lv_iconst (v := 0) hx hb dX3_begin_31 (by decide) ?_
  refine c_v hw (run_V (As := [.int (-200000), .int 850000, .int 0]) (rest := []) (np := 3) hf hw (k_X3_watch l E _ hj hn ((-200000) : Int32) (850000 : Int32) (0 : Int32)  ) ⟨gl_V q469 q470 q471 q56 q472, by decide +kernel⟩ ⟨rfl, rfl, Nat.le_of_ble_eq_true rfl, Nat.le_of_ble_eq_true rfl⟩ (lt_iN hj hn) (c_iN E _ hj hn) rfl rfl hl.1 rfl (Nat.le_of_ble_eq_true rfl) dX3_begin_32 ⟨Nat.zero_le _, Nat.zero_le _⟩) (fun H locs hw => ?_)
  exact e_v hf hr hlocks hw rfl dX3_begin_35
def sp_X3_keptReadings (g : Nat → Int32) (n : Nat)  : Int32 :=
  mnI (g (sF n 11)) (9 : Int32)
set_option maxHeartbeats 4000000 in
set_option maxRecDepth 100000 in
theorem k_X3_keptReadings (l : Launch) (E : En) (μ : Mu) {j : Nat} (hj : j < 6) {n : Nat} (hn : n < 6)   : MtI l yX3_keptReadings cX3_keptReadings 1 .int ({ frames := 1, cells := 0, slots := 0, locals := 13 }) [.ref (E.1 (iN j n))] E μ ((sp_X3_keptReadings (μ.1 j) n), μ) := by
  refine mt_of (by decide +kernel) (Nat.le_of_ble_eq_true rfl) ?_
  intro p e s m args below meth c ls hf hr hlocks hl hw
  have hx := hf.1
  have hb := hf.2.1
  have hl : lv_has ls 1 [(0, .ref (E.1 (iN j n)))] := hl
  refine lv_aload_n hx hb dX3_keptReadings_0 rfl (lv_at hl 0 rfl) ?_
  refine g_f hw hf (lt_iN hj hn) (c_iN E _ hj hn) rfl inlX3 11 (by decide) rfl q423 rfl dX3_keptReadings_1 ?_
  refine lv_bipush (v := 9) hx hb dX3_keptReadings_4 (by decide) ?_
  refine va_mmin hx hb (hf.2.2.1.trans hl.1.symm) hf.2.2.2.1 (hf.2.2.2.2 _ q523) (hf.2.2.2.2 _ q461) (hf.2.2.2.2 _ q291) (hf.2.2.2.2 _ q462) (Nat.le_of_ble_eq_true rfl) (Nat.le_of_ble_eq_true rfl) (Nat.zero_le _) (Nat.zero_le _) dX3_keptReadings_6 ?_
  exact e_i hf hr hlocks hw rfl (congrArg (fun z => (z, μ)) rfl) dX3_keptReadings_9
def sp_X3_reading (g : Nat → Int32) (n : Nat) (w : Int32) : Int32 :=
  if (w : Int32) < 0 then
    0
  else
    if (9 : Int32) ≤ w then
      0
    else
      g (sF n (19 + w.toNatClampNeg))
set_option maxHeartbeats 4000000 in
set_option maxRecDepth 100000 in
theorem k_X3_reading (l : Launch) (E : En) (μ : Mu) {j : Nat} (hj : j < 6) {n : Nat} (hn : n < 6) (w : Int32)  : MtI l yX3_reading cX3_reading 2 .int ({ frames := 0, cells := 0, slots := 0, locals := 0 }) [.ref (E.1 (iN j n)), .int (w)] E μ ((sp_X3_reading (μ.1 j) n w), μ) := by
  refine mt_of (by decide +kernel) (Nat.le_of_ble_eq_true rfl) ?_
  intro p e s m args below meth c ls hf hr hlocks hl hw
  have hx := hf.1
  have hb := hf.2.1
  have hl : lv_has ls 2 [(0, .ref (E.1 (iN j n))), (1, .int (w))] := hl
  refine lv_iload_n hx hb dX3_reading_0 rfl (lv_at hl 1 rfl) ?_
  refine lv_if_lt (tgt := 22) hx hb dX3_reading_1 (by decide) (fun c1 => ?_) (fun c1 => ?_)
  · refine lv_iconst (v := 0) hx hb dX3_reading_22 (by decide) ?_
    exact e_i hf hr hlocks hw rfl (congrArg (fun z => (z, μ)) ((if_pos c1).trans rfl)) dX3_reading_23
  · refine lv_iload_n hx hb dX3_reading_4 rfl (lv_at hl 1 rfl) ?_
    refine lv_aload_n hx hb dX3_reading_5 rfl (lv_at hl 0 rfl) ?_
    refine g_f hw hf (lt_iN hj hn) (c_iN E _ hj hn) rfl inlX3 14 (by decide) rfl q72 rfl dX3_reading_6 ?_
    refine g_n hw hf (lt_iNr hj hn) (c_iNr E _ hj hn) (t0 := 0) (v := 9) rfl rfl dX3_reading_9 ?_
    refine lv_icmp_ge (tgt := 22) hx hb dX3_reading_10 (by decide) (fun c2 => ?_) (fun c2 => ?_)
    · refine lv_iconst (v := 0) hx hb dX3_reading_22 (by decide) ?_
      exact e_i hf hr hlocks hw rfl (congrArg (fun z => (z, μ)) ((if_neg c1).trans ((if_pos c2).trans rfl))) dX3_reading_23
    · refine lv_aload_n hx hb dX3_reading_13 rfl (lv_at hl 0 rfl) ?_
      refine g_f hw hf (lt_iN hj hn) (c_iN E _ hj hn) rfl inlX3 14 (by decide) rfl q72 rfl dX3_reading_14 ?_
      refine lv_iload_n hx hb dX3_reading_17 rfl (lv_at hl 1 rfl) ?_
      refine g_a hw hf (lt_iNr hj hn) (c_iNr E _ hj hn) (vin 9 9 (by decide) (by decide) rfl c1 c2) (tr_at (y := w.toNatClampNeg) (vin_lt (vin 9 9 (by decide) (by decide) rfl c1 c2)) rfl) dX3_reading_18 ?_
      refine lv_goto (tgt := 23) hx hb dX3_reading_19 (by decide) ?_
      exact e_i hf hr hlocks hw rfl (congrArg (fun z => (z, μ)) ((if_neg c1).trans ((if_neg c2).trans rfl))) dX3_reading_23
def sp_X3_log (μ : Mu) (j : Nat) (n : Nat) (w : Int32) : Mu :=
  if (μ.1 j (sF n 10) : Int32) = 0 then
    if (w : Int32) < μ.1 j (sF n 7) then
      pM (pM (pM (pM (pM (pM (pM (pM (pM (pM (pM μ j (sF n (19 + 8)) (μ.1 j (sF n (19 + 7)))) j (sF n (19 + 7)) (μ.1 j (sF n (19 + 6)))) j (sF n (19 + 6)) (μ.1 j (sF n (19 + 5)))) j (sF n (19 + 5)) (μ.1 j (sF n (19 + 4)))) j (sF n (19 + 4)) (μ.1 j (sF n (19 + 3)))) j (sF n (19 + 3)) (μ.1 j (sF n (19 + 2)))) j (sF n (19 + 2)) (μ.1 j (sF n (19 + 1)))) j (sF n (19 + 1)) (μ.1 j (sF n (19 + 0)))) j (sF n (19 + 0)) w) j (sF n 11) ((μ.1 j (sF n 11)) + 1)) j (sF n 10) (1 : Int32)
    else
      if (w : Int32) ≤ μ.1 j (sF n 8) then
        if (μ.1 j (sF n 10) : Int32) = 1 then
          if (w : Int32) < (μ.1 j (sF n 7)) + (μ.1 j (sF n 9)) then
            pM (pM (pM (pM (pM (pM (pM (pM (pM (pM μ j (sF n (19 + 8)) (μ.1 j (sF n (19 + 7)))) j (sF n (19 + 7)) (μ.1 j (sF n (19 + 6)))) j (sF n (19 + 6)) (μ.1 j (sF n (19 + 5)))) j (sF n (19 + 5)) (μ.1 j (sF n (19 + 4)))) j (sF n (19 + 4)) (μ.1 j (sF n (19 + 3)))) j (sF n (19 + 3)) (μ.1 j (sF n (19 + 2)))) j (sF n (19 + 2)) (μ.1 j (sF n (19 + 1)))) j (sF n (19 + 1)) (μ.1 j (sF n (19 + 0)))) j (sF n (19 + 0)) w) j (sF n 11) ((μ.1 j (sF n 11)) + 1)
          else
            if ((μ.1 j (sF n 8)) - (μ.1 j (sF n 9)) : Int32) < w then
              pM (pM (pM (pM (pM (pM (pM (pM (pM (pM μ j (sF n (19 + 8)) (μ.1 j (sF n (19 + 7)))) j (sF n (19 + 7)) (μ.1 j (sF n (19 + 6)))) j (sF n (19 + 6)) (μ.1 j (sF n (19 + 5)))) j (sF n (19 + 5)) (μ.1 j (sF n (19 + 4)))) j (sF n (19 + 4)) (μ.1 j (sF n (19 + 3)))) j (sF n (19 + 3)) (μ.1 j (sF n (19 + 2)))) j (sF n (19 + 2)) (μ.1 j (sF n (19 + 1)))) j (sF n (19 + 1)) (μ.1 j (sF n (19 + 0)))) j (sF n (19 + 0)) w) j (sF n 11) ((μ.1 j (sF n 11)) + 1)
            else
              pM (pM (pM (pM (pM (pM (pM (pM (pM (pM (pM μ j (sF n (19 + 8)) (μ.1 j (sF n (19 + 7)))) j (sF n (19 + 7)) (μ.1 j (sF n (19 + 6)))) j (sF n (19 + 6)) (μ.1 j (sF n (19 + 5)))) j (sF n (19 + 5)) (μ.1 j (sF n (19 + 4)))) j (sF n (19 + 4)) (μ.1 j (sF n (19 + 3)))) j (sF n (19 + 3)) (μ.1 j (sF n (19 + 2)))) j (sF n (19 + 2)) (μ.1 j (sF n (19 + 1)))) j (sF n (19 + 1)) (μ.1 j (sF n (19 + 0)))) j (sF n (19 + 0)) w) j (sF n 11) ((μ.1 j (sF n 11)) + 1)) j (sF n 10) (0 : Int32)
        else
          pM (pM (pM (pM (pM (pM (pM (pM (pM (pM μ j (sF n (19 + 8)) (μ.1 j (sF n (19 + 7)))) j (sF n (19 + 7)) (μ.1 j (sF n (19 + 6)))) j (sF n (19 + 6)) (μ.1 j (sF n (19 + 5)))) j (sF n (19 + 5)) (μ.1 j (sF n (19 + 4)))) j (sF n (19 + 4)) (μ.1 j (sF n (19 + 3)))) j (sF n (19 + 3)) (μ.1 j (sF n (19 + 2)))) j (sF n (19 + 2)) (μ.1 j (sF n (19 + 1)))) j (sF n (19 + 1)) (μ.1 j (sF n (19 + 0)))) j (sF n (19 + 0)) w) j (sF n 11) ((μ.1 j (sF n 11)) + 1)
      else
        pM (pM (pM (pM (pM (pM (pM (pM (pM (pM (pM μ j (sF n (19 + 8)) (μ.1 j (sF n (19 + 7)))) j (sF n (19 + 7)) (μ.1 j (sF n (19 + 6)))) j (sF n (19 + 6)) (μ.1 j (sF n (19 + 5)))) j (sF n (19 + 5)) (μ.1 j (sF n (19 + 4)))) j (sF n (19 + 4)) (μ.1 j (sF n (19 + 3)))) j (sF n (19 + 3)) (μ.1 j (sF n (19 + 2)))) j (sF n (19 + 2)) (μ.1 j (sF n (19 + 1)))) j (sF n (19 + 1)) (μ.1 j (sF n (19 + 0)))) j (sF n (19 + 0)) w) j (sF n 11) ((μ.1 j (sF n 11)) + 1)) j (sF n 10) (1 : Int32)
  else
    if (μ.1 j (sF n 10) : Int32) = 1 then
      if (w : Int32) < (μ.1 j (sF n 7)) + (μ.1 j (sF n 9)) then
        pM (pM (pM (pM (pM (pM (pM (pM (pM (pM μ j (sF n (19 + 8)) (μ.1 j (sF n (19 + 7)))) j (sF n (19 + 7)) (μ.1 j (sF n (19 + 6)))) j (sF n (19 + 6)) (μ.1 j (sF n (19 + 5)))) j (sF n (19 + 5)) (μ.1 j (sF n (19 + 4)))) j (sF n (19 + 4)) (μ.1 j (sF n (19 + 3)))) j (sF n (19 + 3)) (μ.1 j (sF n (19 + 2)))) j (sF n (19 + 2)) (μ.1 j (sF n (19 + 1)))) j (sF n (19 + 1)) (μ.1 j (sF n (19 + 0)))) j (sF n (19 + 0)) w) j (sF n 11) ((μ.1 j (sF n 11)) + 1)
      else
        if ((μ.1 j (sF n 8)) - (μ.1 j (sF n 9)) : Int32) < w then
          pM (pM (pM (pM (pM (pM (pM (pM (pM (pM μ j (sF n (19 + 8)) (μ.1 j (sF n (19 + 7)))) j (sF n (19 + 7)) (μ.1 j (sF n (19 + 6)))) j (sF n (19 + 6)) (μ.1 j (sF n (19 + 5)))) j (sF n (19 + 5)) (μ.1 j (sF n (19 + 4)))) j (sF n (19 + 4)) (μ.1 j (sF n (19 + 3)))) j (sF n (19 + 3)) (μ.1 j (sF n (19 + 2)))) j (sF n (19 + 2)) (μ.1 j (sF n (19 + 1)))) j (sF n (19 + 1)) (μ.1 j (sF n (19 + 0)))) j (sF n (19 + 0)) w) j (sF n 11) ((μ.1 j (sF n 11)) + 1)
        else
          pM (pM (pM (pM (pM (pM (pM (pM (pM (pM (pM μ j (sF n (19 + 8)) (μ.1 j (sF n (19 + 7)))) j (sF n (19 + 7)) (μ.1 j (sF n (19 + 6)))) j (sF n (19 + 6)) (μ.1 j (sF n (19 + 5)))) j (sF n (19 + 5)) (μ.1 j (sF n (19 + 4)))) j (sF n (19 + 4)) (μ.1 j (sF n (19 + 3)))) j (sF n (19 + 3)) (μ.1 j (sF n (19 + 2)))) j (sF n (19 + 2)) (μ.1 j (sF n (19 + 1)))) j (sF n (19 + 1)) (μ.1 j (sF n (19 + 0)))) j (sF n (19 + 0)) w) j (sF n 11) ((μ.1 j (sF n 11)) + 1)) j (sF n 10) (0 : Int32)
    else
      pM (pM (pM (pM (pM (pM (pM (pM (pM (pM μ j (sF n (19 + 8)) (μ.1 j (sF n (19 + 7)))) j (sF n (19 + 7)) (μ.1 j (sF n (19 + 6)))) j (sF n (19 + 6)) (μ.1 j (sF n (19 + 5)))) j (sF n (19 + 5)) (μ.1 j (sF n (19 + 4)))) j (sF n (19 + 4)) (μ.1 j (sF n (19 + 3)))) j (sF n (19 + 3)) (μ.1 j (sF n (19 + 2)))) j (sF n (19 + 2)) (μ.1 j (sF n (19 + 1)))) j (sF n (19 + 1)) (μ.1 j (sF n (19 + 0)))) j (sF n (19 + 0)) w) j (sF n 11) ((μ.1 j (sF n 11)) + 1)
set_option maxHeartbeats 4000000 in
set_option maxRecDepth 100000 in
theorem k_X3_log (l : Launch) (E : En) (μ : Mu) {j : Nat} (hj : j < 6) {n : Nat} (hn : n < 6) (w : Int32)  : MtV l yX3_log cX3_log 3 ({ frames := 0, cells := 0, slots := 0, locals := 0 }) [.ref (E.1 (iN j n)), .int (w)] E μ (sp_X3_log μ j n w) := by
  refine mt_of (by decide +kernel) (Nat.le_of_ble_eq_true rfl) ?_
  intro p e s m args below meth c ls hf hr hlocks hl hw
  have hx := hf.1
  have hb := hf.2.1
  have hl : lv_has ls 3 [(0, .ref (E.1 (iN j n))), (1, .int (w))] := hl
  refine lv_bipush (v := 8) hx hb dX3_log_0 (by decide) ?_
  refine lv_istore_n (lv' := [(2, .int 8), (0, .ref (E.1 (iN j n))), (1, .int (w))]) hx hb dX3_log_2 rfl hl (by decide) rfl (fun ls hl => ?_)
  refine lv_iload_n hx hb dX3_log_3 rfl (lv_at hl 0 rfl) ?_
  refine lv_if_le (tgt := 27) hx hb dX3_log_4 (by decide) (fun c => absurd c (by decide)) (fun _ => ?_)
  refine lv_aload_n hx hb dX3_log_7 rfl (lv_at hl 1 rfl) ?_
  refine g_f hw hf (lt_iN hj hn) (c_iN E _ hj hn) rfl inlX3 14 (by decide) rfl q72 rfl dX3_log_8 ?_
  refine lv_iload_n hx hb dX3_log_11 rfl (lv_at hl 0 rfl) ?_
  refine lv_aload_n hx hb dX3_log_12 rfl (lv_at hl 1 rfl) ?_
  refine g_f hw hf (lt_iN hj hn) (c_iN E _ hj hn) rfl inlX3 14 (by decide) rfl q72 rfl dX3_log_13 ?_
  refine lv_iload_n hx hb dX3_log_16 rfl (lv_at hl 0 rfl) ?_
  refine lv_iconst (v := 1) hx hb dX3_log_17 (by decide) ?_
  refine lv_isub hx hb dX3_log_18 ?_
  refine fold_i (show (8 - 1 : Int32) = 7 from by decide) ?_
  refine g_a hw hf (lt_iNr hj hn) (c_iNr E _ hj hn) (vp_lit 7 9 (by decide) (by decide)) (tr_at (y := 7) (by decide) (by decide)) dX3_log_19 ?_
  refine p_a hw hf (lt_iNr hj hn) (c_iNr E _ hj hn) (vp_lit 8 9 (by decide) (by decide)) (by rw [show (8 : Int32).toNatClampNeg = 8 from (by decide)]; exact (s_iNr E _ hj hn (by decide) _)) dX3_log_20 (fun H locs hw => ?_)
  refine lv_iinc (v := 7) (lv' := [(2, .int 7), (0, .ref (E.1 (iN j n))), (1, .int (w))]) hx hb dX3_log_21 hl (k := 0) rfl (by decide) (by decide) rfl (fun ls hl => ?_)
  refine lv_goto (tgt := 3) hx hb dX3_log_24 (by decide) ?_
  refine lv_iload_n hx hb dX3_log_3 rfl (lv_at hl 0 rfl) ?_
  refine lv_if_le (tgt := 27) hx hb dX3_log_4 (by decide) (fun c => absurd c (by decide)) (fun _ => ?_)
  refine lv_aload_n hx hb dX3_log_7 rfl (lv_at hl 1 rfl) ?_
  refine g_f hw hf (lt_iN hj hn) (c_iN E _ hj hn) rfl inlX3 14 (by decide) rfl q72 rfl dX3_log_8 ?_
  refine lv_iload_n hx hb dX3_log_11 rfl (lv_at hl 0 rfl) ?_
  refine lv_aload_n hx hb dX3_log_12 rfl (lv_at hl 1 rfl) ?_
  refine g_f hw hf (lt_iN hj hn) (c_iN E _ hj hn) rfl inlX3 14 (by decide) rfl q72 rfl dX3_log_13 ?_
  refine lv_iload_n hx hb dX3_log_16 rfl (lv_at hl 0 rfl) ?_
  refine lv_iconst (v := 1) hx hb dX3_log_17 (by decide) ?_
  refine lv_isub hx hb dX3_log_18 ?_
  refine fold_i (show (7 - 1 : Int32) = 6 from by decide) ?_
  refine g_a hw hf (lt_iNr hj hn) (c_iNr E _ hj hn) (vp_lit 6 9 (by decide) (by decide)) ((tr_at (y := 6) (by decide) (by decide)).trans (show _ = μ.1 j (sF n (19 + 6)) from (by first | (simp [pM, pJ, upM, upJ, sF, tN, tD, tR]; done) | (simp (disch := (first | omega | (simp only [tN, tD, tR, sF]; omega))) only [pM, pJ, upM_s, upM_k, upM_c, upJ_s, upJ_k, upJ_c])))) dX3_log_19 ?_
  refine p_a hw hf (lt_iNr hj hn) (c_iNr E _ hj hn) (vp_lit 7 9 (by decide) (by decide)) (by rw [show (7 : Int32).toNatClampNeg = 7 from (by decide)]; exact (s_iNr E _ hj hn (by decide) _)) dX3_log_20 (fun H locs hw => ?_)
  refine lv_iinc (v := 6) (lv' := [(2, .int 6), (0, .ref (E.1 (iN j n))), (1, .int (w))]) hx hb dX3_log_21 hl (k := 0) rfl (by decide) (by decide) rfl (fun ls hl => ?_)
  refine lv_goto (tgt := 3) hx hb dX3_log_24 (by decide) ?_
  refine lv_iload_n hx hb dX3_log_3 rfl (lv_at hl 0 rfl) ?_
  refine lv_if_le (tgt := 27) hx hb dX3_log_4 (by decide) (fun c => absurd c (by decide)) (fun _ => ?_)
  refine lv_aload_n hx hb dX3_log_7 rfl (lv_at hl 1 rfl) ?_
  refine g_f hw hf (lt_iN hj hn) (c_iN E _ hj hn) rfl inlX3 14 (by decide) rfl q72 rfl dX3_log_8 ?_
  refine lv_iload_n hx hb dX3_log_11 rfl (lv_at hl 0 rfl) ?_
  refine lv_aload_n hx hb dX3_log_12 rfl (lv_at hl 1 rfl) ?_
  refine g_f hw hf (lt_iN hj hn) (c_iN E _ hj hn) rfl inlX3 14 (by decide) rfl q72 rfl dX3_log_13 ?_
  refine lv_iload_n hx hb dX3_log_16 rfl (lv_at hl 0 rfl) ?_
  refine lv_iconst (v := 1) hx hb dX3_log_17 (by decide) ?_
  refine lv_isub hx hb dX3_log_18 ?_
  refine fold_i (show (6 - 1 : Int32) = 5 from by decide) ?_
  refine g_a hw hf (lt_iNr hj hn) (c_iNr E _ hj hn) (vp_lit 5 9 (by decide) (by decide)) ((tr_at (y := 5) (by decide) (by decide)).trans (show _ = μ.1 j (sF n (19 + 5)) from (by first | (simp [pM, pJ, upM, upJ, sF, tN, tD, tR]; done) | (simp (disch := (first | omega | (simp only [tN, tD, tR, sF]; omega))) only [pM, pJ, upM_s, upM_k, upM_c, upJ_s, upJ_k, upJ_c])))) dX3_log_19 ?_
  refine p_a hw hf (lt_iNr hj hn) (c_iNr E _ hj hn) (vp_lit 6 9 (by decide) (by decide)) (by rw [show (6 : Int32).toNatClampNeg = 6 from (by decide)]; exact (s_iNr E _ hj hn (by decide) _)) dX3_log_20 (fun H locs hw => ?_)
  refine lv_iinc (v := 5) (lv' := [(2, .int 5), (0, .ref (E.1 (iN j n))), (1, .int (w))]) hx hb dX3_log_21 hl (k := 0) rfl (by decide) (by decide) rfl (fun ls hl => ?_)
  refine lv_goto (tgt := 3) hx hb dX3_log_24 (by decide) ?_
  refine lv_iload_n hx hb dX3_log_3 rfl (lv_at hl 0 rfl) ?_
  refine lv_if_le (tgt := 27) hx hb dX3_log_4 (by decide) (fun c => absurd c (by decide)) (fun _ => ?_)
  refine lv_aload_n hx hb dX3_log_7 rfl (lv_at hl 1 rfl) ?_
  refine g_f hw hf (lt_iN hj hn) (c_iN E _ hj hn) rfl inlX3 14 (by decide) rfl q72 rfl dX3_log_8 ?_
  refine lv_iload_n hx hb dX3_log_11 rfl (lv_at hl 0 rfl) ?_
  refine lv_aload_n hx hb dX3_log_12 rfl (lv_at hl 1 rfl) ?_
  refine g_f hw hf (lt_iN hj hn) (c_iN E _ hj hn) rfl inlX3 14 (by decide) rfl q72 rfl dX3_log_13 ?_
  refine lv_iload_n hx hb dX3_log_16 rfl (lv_at hl 0 rfl) ?_
  refine lv_iconst (v := 1) hx hb dX3_log_17 (by decide) ?_
  refine lv_isub hx hb dX3_log_18 ?_
  refine fold_i (show (5 - 1 : Int32) = 4 from by decide) ?_
  refine g_a hw hf (lt_iNr hj hn) (c_iNr E _ hj hn) (vp_lit 4 9 (by decide) (by decide)) ((tr_at (y := 4) (by decide) (by decide)).trans (show _ = μ.1 j (sF n (19 + 4)) from (by first | (simp [pM, pJ, upM, upJ, sF, tN, tD, tR]; done) | (simp (disch := (first | omega | (simp only [tN, tD, tR, sF]; omega))) only [pM, pJ, upM_s, upM_k, upM_c, upJ_s, upJ_k, upJ_c])))) dX3_log_19 ?_
  refine p_a hw hf (lt_iNr hj hn) (c_iNr E _ hj hn) (vp_lit 5 9 (by decide) (by decide)) (by rw [show (5 : Int32).toNatClampNeg = 5 from (by decide)]; exact (s_iNr E _ hj hn (by decide) _)) dX3_log_20 (fun H locs hw => ?_)
  refine lv_iinc (v := 4) (lv' := [(2, .int 4), (0, .ref (E.1 (iN j n))), (1, .int (w))]) hx hb dX3_log_21 hl (k := 0) rfl (by decide) (by decide) rfl (fun ls hl => ?_)
  refine lv_goto (tgt := 3) hx hb dX3_log_24 (by decide) ?_
  refine lv_iload_n hx hb dX3_log_3 rfl (lv_at hl 0 rfl) ?_
  refine lv_if_le (tgt := 27) hx hb dX3_log_4 (by decide) (fun c => absurd c (by decide)) (fun _ => ?_)
  refine lv_aload_n hx hb dX3_log_7 rfl (lv_at hl 1 rfl) ?_
  refine g_f hw hf (lt_iN hj hn) (c_iN E _ hj hn) rfl inlX3 14 (by decide) rfl q72 rfl dX3_log_8 ?_
  refine lv_iload_n hx hb dX3_log_11 rfl (lv_at hl 0 rfl) ?_
  refine lv_aload_n hx hb dX3_log_12 rfl (lv_at hl 1 rfl) ?_
  refine g_f hw hf (lt_iN hj hn) (c_iN E _ hj hn) rfl inlX3 14 (by decide) rfl q72 rfl dX3_log_13 ?_
  refine lv_iload_n hx hb dX3_log_16 rfl (lv_at hl 0 rfl) ?_
  refine lv_iconst (v := 1) hx hb dX3_log_17 (by decide) ?_
  refine lv_isub hx hb dX3_log_18 ?_
  refine fold_i (show (4 - 1 : Int32) = 3 from by decide) ?_
  refine g_a hw hf (lt_iNr hj hn) (c_iNr E _ hj hn) (vp_lit 3 9 (by decide) (by decide)) ((tr_at (y := 3) (by decide) (by decide)).trans (show _ = μ.1 j (sF n (19 + 3)) from (by first | (simp [pM, pJ, upM, upJ, sF, tN, tD, tR]; done) | (simp (disch := (first | omega | (simp only [tN, tD, tR, sF]; omega))) only [pM, pJ, upM_s, upM_k, upM_c, upJ_s, upJ_k, upJ_c])))) dX3_log_19 ?_
  refine p_a hw hf (lt_iNr hj hn) (c_iNr E _ hj hn) (vp_lit 4 9 (by decide) (by decide)) (by rw [show (4 : Int32).toNatClampNeg = 4 from (by decide)]; exact (s_iNr E _ hj hn (by decide) _)) dX3_log_20 (fun H locs hw => ?_)
  refine lv_iinc (v := 3) (lv' := [(2, .int 3), (0, .ref (E.1 (iN j n))), (1, .int (w))]) hx hb dX3_log_21 hl (k := 0) rfl (by decide) (by decide) rfl (fun ls hl => ?_)
  refine lv_goto (tgt := 3) hx hb dX3_log_24 (by decide) ?_
  refine lv_iload_n hx hb dX3_log_3 rfl (lv_at hl 0 rfl) ?_
  refine lv_if_le (tgt := 27) hx hb dX3_log_4 (by decide) (fun c => absurd c (by decide)) (fun _ => ?_)
  refine lv_aload_n hx hb dX3_log_7 rfl (lv_at hl 1 rfl) ?_
  refine g_f hw hf (lt_iN hj hn) (c_iN E _ hj hn) rfl inlX3 14 (by decide) rfl q72 rfl dX3_log_8 ?_
  refine lv_iload_n hx hb dX3_log_11 rfl (lv_at hl 0 rfl) ?_
  refine lv_aload_n hx hb dX3_log_12 rfl (lv_at hl 1 rfl) ?_
  refine g_f hw hf (lt_iN hj hn) (c_iN E _ hj hn) rfl inlX3 14 (by decide) rfl q72 rfl dX3_log_13 ?_
  refine lv_iload_n hx hb dX3_log_16 rfl (lv_at hl 0 rfl) ?_
  refine lv_iconst (v := 1) hx hb dX3_log_17 (by decide) ?_
  refine lv_isub hx hb dX3_log_18 ?_
  refine fold_i (show (3 - 1 : Int32) = 2 from by decide) ?_
  refine g_a hw hf (lt_iNr hj hn) (c_iNr E _ hj hn) (vp_lit 2 9 (by decide) (by decide)) ((tr_at (y := 2) (by decide) (by decide)).trans (show _ = μ.1 j (sF n (19 + 2)) from (by first | (simp [pM, pJ, upM, upJ, sF, tN, tD, tR]; done) | (simp (disch := (first | omega | (simp only [tN, tD, tR, sF]; omega))) only [pM, pJ, upM_s, upM_k, upM_c, upJ_s, upJ_k, upJ_c])))) dX3_log_19 ?_
  refine p_a hw hf (lt_iNr hj hn) (c_iNr E _ hj hn) (vp_lit 3 9 (by decide) (by decide)) (by rw [show (3 : Int32).toNatClampNeg = 3 from (by decide)]; exact (s_iNr E _ hj hn (by decide) _)) dX3_log_20 (fun H locs hw => ?_)
  refine lv_iinc (v := 2) (lv' := [(2, .int 2), (0, .ref (E.1 (iN j n))), (1, .int (w))]) hx hb dX3_log_21 hl (k := 0) rfl (by decide) (by decide) rfl (fun ls hl => ?_)
  refine lv_goto (tgt := 3) hx hb dX3_log_24 (by decide) ?_
  refine lv_iload_n hx hb dX3_log_3 rfl (lv_at hl 0 rfl) ?_
  refine lv_if_le (tgt := 27) hx hb dX3_log_4 (by decide) (fun c => absurd c (by decide)) (fun _ => ?_)
  refine lv_aload_n hx hb dX3_log_7 rfl (lv_at hl 1 rfl) ?_
  refine g_f hw hf (lt_iN hj hn) (c_iN E _ hj hn) rfl inlX3 14 (by decide) rfl q72 rfl dX3_log_8 ?_
  refine lv_iload_n hx hb dX3_log_11 rfl (lv_at hl 0 rfl) ?_
  refine lv_aload_n hx hb dX3_log_12 rfl (lv_at hl 1 rfl) ?_
  refine g_f hw hf (lt_iN hj hn) (c_iN E _ hj hn) rfl inlX3 14 (by decide) rfl q72 rfl dX3_log_13 ?_
  refine lv_iload_n hx hb dX3_log_16 rfl (lv_at hl 0 rfl) ?_
  refine lv_iconst (v := 1) hx hb dX3_log_17 (by decide) ?_
  refine lv_isub hx hb dX3_log_18 ?_
  refine fold_i (show (2 - 1 : Int32) = 1 from by decide) ?_
  refine g_a hw hf (lt_iNr hj hn) (c_iNr E _ hj hn) (vp_lit 1 9 (by decide) (by decide)) ((tr_at (y := 1) (by decide) (by decide)).trans (show _ = μ.1 j (sF n (19 + 1)) from (by first | (simp [pM, pJ, upM, upJ, sF, tN, tD, tR]; done) | (simp (disch := (first | omega | (simp only [tN, tD, tR, sF]; omega))) only [pM, pJ, upM_s, upM_k, upM_c, upJ_s, upJ_k, upJ_c])))) dX3_log_19 ?_
  refine p_a hw hf (lt_iNr hj hn) (c_iNr E _ hj hn) (vp_lit 2 9 (by decide) (by decide)) (by rw [show (2 : Int32).toNatClampNeg = 2 from (by decide)]; exact (s_iNr E _ hj hn (by decide) _)) dX3_log_20 (fun H locs hw => ?_)
  refine lv_iinc (v := 1) (lv' := [(2, .int 1), (0, .ref (E.1 (iN j n))), (1, .int (w))]) hx hb dX3_log_21 hl (k := 0) rfl (by decide) (by decide) rfl (fun ls hl => ?_)
  refine lv_goto (tgt := 3) hx hb dX3_log_24 (by decide) ?_
  refine lv_iload_n hx hb dX3_log_3 rfl (lv_at hl 0 rfl) ?_
  refine lv_if_le (tgt := 27) hx hb dX3_log_4 (by decide) (fun c => absurd c (by decide)) (fun _ => ?_)
  refine lv_aload_n hx hb dX3_log_7 rfl (lv_at hl 1 rfl) ?_
  refine g_f hw hf (lt_iN hj hn) (c_iN E _ hj hn) rfl inlX3 14 (by decide) rfl q72 rfl dX3_log_8 ?_
  refine lv_iload_n hx hb dX3_log_11 rfl (lv_at hl 0 rfl) ?_
  refine lv_aload_n hx hb dX3_log_12 rfl (lv_at hl 1 rfl) ?_
  refine g_f hw hf (lt_iN hj hn) (c_iN E _ hj hn) rfl inlX3 14 (by decide) rfl q72 rfl dX3_log_13 ?_
  refine lv_iload_n hx hb dX3_log_16 rfl (lv_at hl 0 rfl) ?_
  refine lv_iconst (v := 1) hx hb dX3_log_17 (by decide) ?_
  refine lv_isub hx hb dX3_log_18 ?_
  refine fold_i (show (1 - 1 : Int32) = 0 from by decide) ?_
  refine g_a hw hf (lt_iNr hj hn) (c_iNr E _ hj hn) (vp_lit 0 9 (by decide) (by decide)) ((tr_at (y := 0) (by decide) (by decide)).trans (show _ = μ.1 j (sF n (19 + 0)) from (by first | (simp [pM, pJ, upM, upJ, sF, tN, tD, tR]; done) | (simp (disch := (first | omega | (simp only [tN, tD, tR, sF]; omega))) only [pM, pJ, upM_s, upM_k, upM_c, upJ_s, upJ_k, upJ_c])))) dX3_log_19 ?_
  refine p_a hw hf (lt_iNr hj hn) (c_iNr E _ hj hn) (vp_lit 1 9 (by decide) (by decide)) (by rw [show (1 : Int32).toNatClampNeg = 1 from (by decide)]; exact (s_iNr E _ hj hn (by decide) _)) dX3_log_20 (fun H locs hw => ?_)
  refine lv_iinc (v := 0) (lv' := [(2, .int 0), (0, .ref (E.1 (iN j n))), (1, .int (w))]) hx hb dX3_log_21 hl (k := 0) rfl (by decide) (by decide) rfl (fun ls hl => ?_)
  refine lv_goto (tgt := 3) hx hb dX3_log_24 (by decide) ?_
  refine lv_iload_n hx hb dX3_log_3 rfl (lv_at hl 0 rfl) ?_
  refine lv_if_le (tgt := 27) hx hb dX3_log_4 (by decide) (fun _ => ?_) (fun c => absurd c (by decide))
  refine lv_aload_n hx hb dX3_log_27 rfl (lv_at hl 1 rfl) ?_
  refine g_f hw hf (lt_iN hj hn) (c_iN E _ hj hn) rfl inlX3 14 (by decide) rfl q72 rfl dX3_log_28 ?_
  refine lv_iconst (v := 0) hx hb dX3_log_31 (by decide) ?_
  refine lv_iload_n hx hb dX3_log_32 rfl (lv_at hl 2 rfl) ?_
  refine p_a hw hf (lt_iNr hj hn) (c_iNr E _ hj hn) (vp_lit 0 9 (by decide) (by decide)) (by rw [show (0 : Int32).toNatClampNeg = 0 from (by decide)]; exact (s_iNr E _ hj hn (by decide) _)) dX3_log_33 (fun H locs hw => ?_)
  refine lv_aload_n hx hb dX3_log_34 rfl (lv_at hl 1 rfl) ?_
  refine lv_dup hx hb dX3_log_35 rfl ?_
  refine g_f hw hf (lt_iN hj hn) (c_iN E _ hj hn) rfl inlX3 11 (by decide) rfl q423 (congrArg (fun z => some (Value.int z)) (show _ = μ.1 j (sF n 11) from (by first | (simp [pM, pJ, upM, upJ, sF, tN, tD, tR]; done) | (simp (disch := (first | omega | (simp only [tN, tD, tR, sF]; omega))) only [pM, pJ, upM_s, upM_k, upM_c, upJ_s, upJ_k, upJ_c])))) dX3_log_36 ?_
  refine lv_iconst (v := 1) hx hb dX3_log_39 (by decide) ?_
  refine lv_iadd hx hb dX3_log_40 ?_
  refine p_f hw hf (lt_iN hj hn) (c_iN E _ hj hn) rfl inlX3 tyX3_ok nmX3 11 (by decide) rfl q423 rfl rfl rfl (Nat.le_of_ble_eq_true rfl) (s_N_11 E _ hj hn _) dX3_log_41 (fun H locs hw => ?_)
  refine lv_aload_n hx hb dX3_log_44 rfl (lv_at hl 1 rfl) ?_
  refine g_f hw hf (lt_iN hj hn) (c_iN E _ hj hn) rfl inlX3 10 (by decide) rfl q422 (congrArg (fun z => some (Value.int z)) (show _ = μ.1 j (sF n 10) from (by first | (simp [pM, pJ, upM, upJ, sF, tN, tD, tR]; done) | (simp (disch := (first | omega | (simp only [tN, tD, tR, sF]; omega))) only [pM, pJ, upM_s, upM_k, upM_c, upJ_s, upJ_k, upJ_c])))) dX3_log_45 ?_
  refine lv_if_ne (tgt := 75) hx hb dX3_log_48 (by decide) (fun c10 => ?_) (fun c10 => ?_)
  · refine lv_aload_n hx hb dX3_log_75 rfl (lv_at hl 1 rfl) ?_
    refine g_f hw hf (lt_iN hj hn) (c_iN E _ hj hn) rfl inlX3 10 (by decide) rfl q422 (congrArg (fun z => some (Value.int z)) (show _ = μ.1 j (sF n 10) from (by first | (simp [pM, pJ, upM, upJ, sF, tN, tD, tR]; done) | (simp (disch := (first | omega | (simp only [tN, tD, tR, sF]; omega))) only [pM, pJ, upM_s, upM_k, upM_c, upJ_s, upJ_k, upJ_c])))) dX3_log_76 ?_
    refine lv_iconst (v := 1) hx hb dX3_log_79 (by decide) ?_
    refine lv_icmp_ne (tgt := 114) hx hb dX3_log_80 (by decide) (fun c11 => ?_) (fun c11 => ?_)
    · exact e_v hf hr hlocks hw ((if_neg c10).trans ((if_neg c11).trans rfl)) dX3_log_114
    · refine lv_iload_n hx hb dX3_log_83 rfl (lv_at hl 2 rfl) ?_
      refine lv_aload_n hx hb dX3_log_84 rfl (lv_at hl 1 rfl) ?_
      refine g_f hw hf (lt_iN hj hn) (c_iN E _ hj hn) rfl inlX3 7 (by decide) rfl q419 (congrArg (fun z => some (Value.int z)) (show _ = μ.1 j (sF n 7) from (by first | (simp [pM, pJ, upM, upJ, sF, tN, tD, tR]; done) | (simp (disch := (first | omega | (simp only [tN, tD, tR, sF]; omega))) only [pM, pJ, upM_s, upM_k, upM_c, upJ_s, upJ_k, upJ_c])))) dX3_log_85 ?_
      refine lv_aload_n hx hb dX3_log_88 rfl (lv_at hl 1 rfl) ?_
      refine g_f hw hf (lt_iN hj hn) (c_iN E _ hj hn) rfl inlX3 9 (by decide) rfl q421 (congrArg (fun z => some (Value.int z)) (show _ = μ.1 j (sF n 9) from (by first | (simp [pM, pJ, upM, upJ, sF, tN, tD, tR]; done) | (simp (disch := (first | omega | (simp only [tN, tD, tR, sF]; omega))) only [pM, pJ, upM_s, upM_k, upM_c, upJ_s, upJ_k, upJ_c])))) dX3_log_89 ?_
      refine lv_iadd hx hb dX3_log_92 ?_
      refine lv_icmp_lt (tgt := 114) hx hb dX3_log_93 (by decide) (fun c12 => ?_) (fun c12 => ?_)
      · exact e_v hf hr hlocks hw ((if_neg c10).trans ((if_pos c11).trans ((if_pos c12).trans rfl))) dX3_log_114
      · refine lv_iload_n hx hb dX3_log_96 rfl (lv_at hl 2 rfl) ?_
        refine lv_aload_n hx hb dX3_log_97 rfl (lv_at hl 1 rfl) ?_
        refine g_f hw hf (lt_iN hj hn) (c_iN E _ hj hn) rfl inlX3 8 (by decide) rfl q420 (congrArg (fun z => some (Value.int z)) (show _ = μ.1 j (sF n 8) from (by first | (simp [pM, pJ, upM, upJ, sF, tN, tD, tR]; done) | (simp (disch := (first | omega | (simp only [tN, tD, tR, sF]; omega))) only [pM, pJ, upM_s, upM_k, upM_c, upJ_s, upJ_k, upJ_c])))) dX3_log_98 ?_
        refine lv_aload_n hx hb dX3_log_101 rfl (lv_at hl 1 rfl) ?_
        refine g_f hw hf (lt_iN hj hn) (c_iN E _ hj hn) rfl inlX3 9 (by decide) rfl q421 (congrArg (fun z => some (Value.int z)) (show _ = μ.1 j (sF n 9) from (by first | (simp [pM, pJ, upM, upJ, sF, tN, tD, tR]; done) | (simp (disch := (first | omega | (simp only [tN, tD, tR, sF]; omega))) only [pM, pJ, upM_s, upM_k, upM_c, upJ_s, upJ_k, upJ_c])))) dX3_log_102 ?_
        refine lv_isub hx hb dX3_log_105 ?_
        refine lv_icmp_gt (tgt := 114) hx hb dX3_log_106 (by decide) (fun c13 => ?_) (fun c13 => ?_)
        · exact e_v hf hr hlocks hw ((if_neg c10).trans ((if_pos c11).trans ((if_neg c12).trans ((if_pos c13).trans rfl)))) dX3_log_114
        · refine lv_aload_n hx hb dX3_log_109 rfl (lv_at hl 1 rfl) ?_
          refine lv_iconst (v := 0) hx hb dX3_log_110 (by decide) ?_
          refine p_f hw hf (lt_iN hj hn) (c_iN E _ hj hn) rfl inlX3 tyX3_ok nmX3 10 (by decide) rfl q422 rfl rfl rfl (Nat.le_of_ble_eq_true rfl) (s_N_10 E _ hj hn _) dX3_log_111 (fun H locs hw => ?_)
          exact e_v hf hr hlocks hw ((if_neg c10).trans ((if_pos c11).trans ((if_neg c12).trans ((if_neg c13).trans rfl)))) dX3_log_114
  · refine lv_iload_n hx hb dX3_log_51 rfl (lv_at hl 2 rfl) ?_
    refine lv_aload_n hx hb dX3_log_52 rfl (lv_at hl 1 rfl) ?_
    refine g_f hw hf (lt_iN hj hn) (c_iN E _ hj hn) rfl inlX3 7 (by decide) rfl q419 (congrArg (fun z => some (Value.int z)) (show _ = μ.1 j (sF n 7) from (by first | (simp [pM, pJ, upM, upJ, sF, tN, tD, tR]; done) | (simp (disch := (first | omega | (simp only [tN, tD, tR, sF]; omega))) only [pM, pJ, upM_s, upM_k, upM_c, upJ_s, upJ_k, upJ_c])))) dX3_log_53 ?_
    refine lv_icmp_lt (tgt := 67) hx hb dX3_log_56 (by decide) (fun c14 => ?_) (fun c14 => ?_)
    · refine lv_aload_n hx hb dX3_log_67 rfl (lv_at hl 1 rfl) ?_
      refine lv_iconst (v := 1) hx hb dX3_log_68 (by decide) ?_
      refine p_f hw hf (lt_iN hj hn) (c_iN E _ hj hn) rfl inlX3 tyX3_ok nmX3 10 (by decide) rfl q422 rfl rfl rfl (Nat.le_of_ble_eq_true rfl) (s_N_10 E _ hj hn _) dX3_log_69 (fun H locs hw => ?_)
      refine lv_goto (tgt := 114) hx hb dX3_log_72 (by decide) ?_
      exact e_v hf hr hlocks hw ((if_pos c10).trans ((if_pos c14).trans rfl)) dX3_log_114
    · refine lv_iload_n hx hb dX3_log_59 rfl (lv_at hl 2 rfl) ?_
      refine lv_aload_n hx hb dX3_log_60 rfl (lv_at hl 1 rfl) ?_
      refine g_f hw hf (lt_iN hj hn) (c_iN E _ hj hn) rfl inlX3 8 (by decide) rfl q420 (congrArg (fun z => some (Value.int z)) (show _ = μ.1 j (sF n 8) from (by first | (simp [pM, pJ, upM, upJ, sF, tN, tD, tR]; done) | (simp (disch := (first | omega | (simp only [tN, tD, tR, sF]; omega))) only [pM, pJ, upM_s, upM_k, upM_c, upJ_s, upJ_k, upJ_c])))) dX3_log_61 ?_
      refine lv_icmp_le (tgt := 75) hx hb dX3_log_64 (by decide) (fun c15 => ?_) (fun c15 => ?_)
      · refine lv_aload_n hx hb dX3_log_75 rfl (lv_at hl 1 rfl) ?_
        refine g_f hw hf (lt_iN hj hn) (c_iN E _ hj hn) rfl inlX3 10 (by decide) rfl q422 (congrArg (fun z => some (Value.int z)) (show _ = μ.1 j (sF n 10) from (by first | (simp [pM, pJ, upM, upJ, sF, tN, tD, tR]; done) | (simp (disch := (first | omega | (simp only [tN, tD, tR, sF]; omega))) only [pM, pJ, upM_s, upM_k, upM_c, upJ_s, upJ_k, upJ_c])))) dX3_log_76 ?_
        refine lv_iconst (v := 1) hx hb dX3_log_79 (by decide) ?_
        refine lv_icmp_ne (tgt := 114) hx hb dX3_log_80 (by decide) (fun c16 => ?_) (fun c16 => ?_)
        · exact e_v hf hr hlocks hw ((if_pos c10).trans ((if_neg c14).trans ((if_pos c15).trans ((if_neg c16).trans rfl)))) dX3_log_114
        · refine lv_iload_n hx hb dX3_log_83 rfl (lv_at hl 2 rfl) ?_
          refine lv_aload_n hx hb dX3_log_84 rfl (lv_at hl 1 rfl) ?_
          refine g_f hw hf (lt_iN hj hn) (c_iN E _ hj hn) rfl inlX3 7 (by decide) rfl q419 (congrArg (fun z => some (Value.int z)) (show _ = μ.1 j (sF n 7) from (by first | (simp [pM, pJ, upM, upJ, sF, tN, tD, tR]; done) | (simp (disch := (first | omega | (simp only [tN, tD, tR, sF]; omega))) only [pM, pJ, upM_s, upM_k, upM_c, upJ_s, upJ_k, upJ_c])))) dX3_log_85 ?_
          refine lv_aload_n hx hb dX3_log_88 rfl (lv_at hl 1 rfl) ?_
          refine g_f hw hf (lt_iN hj hn) (c_iN E _ hj hn) rfl inlX3 9 (by decide) rfl q421 (congrArg (fun z => some (Value.int z)) (show _ = μ.1 j (sF n 9) from (by first | (simp [pM, pJ, upM, upJ, sF, tN, tD, tR]; done) | (simp (disch := (first | omega | (simp only [tN, tD, tR, sF]; omega))) only [pM, pJ, upM_s, upM_k, upM_c, upJ_s, upJ_k, upJ_c])))) dX3_log_89 ?_
          refine lv_iadd hx hb dX3_log_92 ?_
          refine lv_icmp_lt (tgt := 114) hx hb dX3_log_93 (by decide) (fun c17 => ?_) (fun c17 => ?_)
          · exact e_v hf hr hlocks hw ((if_pos c10).trans ((if_neg c14).trans ((if_pos c15).trans ((if_pos c16).trans ((if_pos c17).trans rfl))))) dX3_log_114
          · refine lv_iload_n hx hb dX3_log_96 rfl (lv_at hl 2 rfl) ?_
            refine lv_aload_n hx hb dX3_log_97 rfl (lv_at hl 1 rfl) ?_
            refine g_f hw hf (lt_iN hj hn) (c_iN E _ hj hn) rfl inlX3 8 (by decide) rfl q420 (congrArg (fun z => some (Value.int z)) (show _ = μ.1 j (sF n 8) from (by first | (simp [pM, pJ, upM, upJ, sF, tN, tD, tR]; done) | (simp (disch := (first | omega | (simp only [tN, tD, tR, sF]; omega))) only [pM, pJ, upM_s, upM_k, upM_c, upJ_s, upJ_k, upJ_c])))) dX3_log_98 ?_
            refine lv_aload_n hx hb dX3_log_101 rfl (lv_at hl 1 rfl) ?_
            refine g_f hw hf (lt_iN hj hn) (c_iN E _ hj hn) rfl inlX3 9 (by decide) rfl q421 (congrArg (fun z => some (Value.int z)) (show _ = μ.1 j (sF n 9) from (by first | (simp [pM, pJ, upM, upJ, sF, tN, tD, tR]; done) | (simp (disch := (first | omega | (simp only [tN, tD, tR, sF]; omega))) only [pM, pJ, upM_s, upM_k, upM_c, upJ_s, upJ_k, upJ_c])))) dX3_log_102 ?_
            refine lv_isub hx hb dX3_log_105 ?_
            refine lv_icmp_gt (tgt := 114) hx hb dX3_log_106 (by decide) (fun c18 => ?_) (fun c18 => ?_)
            · exact e_v hf hr hlocks hw ((if_pos c10).trans ((if_neg c14).trans ((if_pos c15).trans ((if_pos c16).trans ((if_neg c17).trans ((if_pos c18).trans rfl)))))) dX3_log_114
            · refine lv_aload_n hx hb dX3_log_109 rfl (lv_at hl 1 rfl) ?_
              refine lv_iconst (v := 0) hx hb dX3_log_110 (by decide) ?_
              refine p_f hw hf (lt_iN hj hn) (c_iN E _ hj hn) rfl inlX3 tyX3_ok nmX3 10 (by decide) rfl q422 rfl rfl rfl (Nat.le_of_ble_eq_true rfl) (s_N_10 E _ hj hn _) dX3_log_111 (fun H locs hw => ?_)
              exact e_v hf hr hlocks hw ((if_pos c10).trans ((if_neg c14).trans ((if_pos c15).trans ((if_pos c16).trans ((if_neg c17).trans ((if_neg c18).trans rfl)))))) dX3_log_114
      · refine lv_aload_n hx hb dX3_log_67 rfl (lv_at hl 1 rfl) ?_
        refine lv_iconst (v := 1) hx hb dX3_log_68 (by decide) ?_
        refine p_f hw hf (lt_iN hj hn) (c_iN E _ hj hn) rfl inlX3 tyX3_ok nmX3 10 (by decide) rfl q422 rfl rfl rfl (Nat.le_of_ble_eq_true rfl) (s_N_10 E _ hj hn _) dX3_log_69 (fun H locs hw => ?_)
        refine lv_goto (tgt := 114) hx hb dX3_log_72 (by decide) ?_
        exact e_v hf hr hlocks hw ((if_pos c10).trans ((if_neg c14).trans ((if_neg c15).trans rfl))) dX3_log_114
