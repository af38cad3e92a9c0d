/-! ===== Table ===== -/
def sp_X5_temperatureOf (g : Nat → Int32) (t : Nat) (w : Int32) : Int32 :=
  if (w : Int32) < 0 then
    0
  else
    if (12 : Int32) ≤ w then
      0
    else
      g (tD t w.toNatClampNeg)
set_option maxHeartbeats 4000000 in
set_option maxRecDepth 100000 in
theorem k_X5_temperatureOf (l : Launch) (E : En) (μ : Mu) {j : Nat} (hj : j < 6) {t : Nat} (ht : t < 3) (w : Int32)  : MtI l yX5_temperatureOf cX5_temperatureOf 2 .int ({ frames := 0, cells := 0, slots := 0, locals := 0 }) [.ref (E.1 (iT j t)), .int (w)] E μ ((sp_X5_temperatureOf (μ.1 j) t w), μ) := by
  refine mt_of (by decide +kernel) (Nat.le_of_ble_eq_true rfl) ?_
  intro p e s m args below meth c ls hf hr hlocks hl hw
  have hx := hf.1
  have hb := hf.2.1
  have hl : lv_has ls 2 [(0, .ref (E.1 (iT j t))), (1, .int (w))] := hl
  refine lv_iload_n hx hb dX5_temperatureOf_0 rfl (lv_at hl 1 rfl) ?_
  refine lv_if_lt (tgt := 22) hx hb dX5_temperatureOf_1 (by decide) (fun c1 => ?_) (fun c1 => ?_)
  · refine lv_iconst (v := 0) hx hb dX5_temperatureOf_22 (by decide) ?_
    exact e_i hf hr hlocks hw rfl (congrArg (fun z => (z, μ)) ((if_pos c1).trans rfl)) dX5_temperatureOf_23
  · refine lv_iload_n hx hb dX5_temperatureOf_4 rfl (lv_at hl 1 rfl) ?_
    refine lv_aload_n hx hb dX5_temperatureOf_5 rfl (lv_at hl 0 rfl) ?_
    refine g_f hw hf (lt_iT hj ht) (c_iT E _ hj ht) rfl inlX5 1 (by decide) rfl q64 rfl dX5_temperatureOf_6 ?_
    refine g_n hw hf (lt_iTt hj ht) (c_iTt E _ hj ht) (t0 := 0) (v := 12) rfl rfl dX5_temperatureOf_9 ?_
    refine lv_icmp_ge (tgt := 22) hx hb dX5_temperatureOf_10 (by decide) (fun c2 => ?_) (fun c2 => ?_)
    · refine lv_iconst (v := 0) hx hb dX5_temperatureOf_22 (by decide) ?_
      exact e_i hf hr hlocks hw rfl (congrArg (fun z => (z, μ)) ((if_neg c1).trans ((if_pos c2).trans rfl))) dX5_temperatureOf_23
    · refine lv_aload_n hx hb dX5_temperatureOf_13 rfl (lv_at hl 0 rfl) ?_
      refine g_f hw hf (lt_iT hj ht) (c_iT E _ hj ht) rfl inlX5 1 (by decide) rfl q64 rfl dX5_temperatureOf_14 ?_
      refine lv_iload_n hx hb dX5_temperatureOf_17 rfl (lv_at hl 1 rfl) ?_
      refine g_a hw hf (lt_iTt hj ht) (c_iTt E _ hj ht) (vin 12 12 (by decide) (by decide) rfl c1 c2) (tr_at (y := w.toNatClampNeg) (vin_lt (vin 12 12 (by decide) (by decide) rfl c1 c2)) rfl) dX5_temperatureOf_18 ?_
      refine lv_goto (tgt := 23) hx hb dX5_temperatureOf_19 (by decide) ?_
      exact e_i hf hr hlocks hw rfl (congrArg (fun z => (z, μ)) ((if_neg c1).trans ((if_neg c2).trans rfl))) dX5_temperatureOf_23
def sp_X5_ratioOf (g : Nat → Int32) (t : Nat) (w : Int32) : Int32 :=
  if (w : Int32) < 0 then
    0
  else
    if (12 : Int32) ≤ w then
      0
    else
      g (tR t w.toNatClampNeg)
set_option maxHeartbeats 4000000 in
set_option maxRecDepth 100000 in
theorem k_X5_ratioOf (l : Launch) (E : En) (μ : Mu) {j : Nat} (hj : j < 6) {t : Nat} (ht : t < 3) (w : Int32)  : MtI l yX5_ratioOf cX5_ratioOf 2 .int ({ frames := 0, cells := 0, slots := 0, locals := 0 }) [.ref (E.1 (iT j t)), .int (w)] E μ ((sp_X5_ratioOf (μ.1 j) t w), μ) := by
  refine mt_of (by decide +kernel) (Nat.le_of_ble_eq_true rfl) ?_
  intro p e s m args below meth c ls hf hr hlocks hl hw
  have hx := hf.1
  have hb := hf.2.1
  have hl : lv_has ls 2 [(0, .ref (E.1 (iT j t))), (1, .int (w))] := hl
  refine lv_iload_n hx hb dX5_ratioOf_0 rfl (lv_at hl 1 rfl) ?_
  refine lv_if_lt (tgt := 22) hx hb dX5_ratioOf_1 (by decide) (fun c1 => ?_) (fun c1 => ?_)
  · refine lv_iconst (v := 0) hx hb dX5_ratioOf_22 (by decide) ?_
    exact e_i hf hr hlocks hw rfl (congrArg (fun z => (z, μ)) ((if_pos c1).trans rfl)) dX5_ratioOf_23
  · refine lv_iload_n hx hb dX5_ratioOf_4 rfl (lv_at hl 1 rfl) ?_
    refine lv_aload_n hx hb dX5_ratioOf_5 rfl (lv_at hl 0 rfl) ?_
    refine g_f hw hf (lt_iT hj ht) (c_iT E _ hj ht) rfl inlX5 2 (by decide) rfl q65 rfl dX5_ratioOf_6 ?_
    refine g_n hw hf (lt_iTr hj ht) (c_iTr E _ hj ht) (t0 := 0) (v := 12) rfl rfl dX5_ratioOf_9 ?_
    refine lv_icmp_ge (tgt := 22) hx hb dX5_ratioOf_10 (by decide) (fun c2 => ?_) (fun c2 => ?_)
    · refine lv_iconst (v := 0) hx hb dX5_ratioOf_22 (by decide) ?_
      exact e_i hf hr hlocks hw rfl (congrArg (fun z => (z, μ)) ((if_neg c1).trans ((if_pos c2).trans rfl))) dX5_ratioOf_23
    · refine lv_aload_n hx hb dX5_ratioOf_13 rfl (lv_at hl 0 rfl) ?_
      refine g_f hw hf (lt_iT hj ht) (c_iT E _ hj ht) rfl inlX5 2 (by decide) rfl q65 rfl dX5_ratioOf_14 ?_
      refine lv_iload_n hx hb dX5_ratioOf_17 rfl (lv_at hl 1 rfl) ?_
      refine g_a hw hf (lt_iTr hj ht) (c_iTr E _ hj ht) (vin 12 12 (by decide) (by decide) rfl c1 c2) (tr_at (y := w.toNatClampNeg) (vin_lt (vin 12 12 (by decide) (by decide) rfl c1 c2)) rfl) dX5_ratioOf_18 ?_
      refine lv_goto (tgt := 23) hx hb dX5_ratioOf_19 (by decide) ?_
      exact e_i hf hr hlocks hw rfl (congrArg (fun z => (z, μ)) ((if_neg c1).trans ((if_neg c2).trans rfl))) dX5_ratioOf_23
def sp_X5_mayGoOn (g : Nat → Int32) (t : Nat) (a : Int32) (b : Int32) : Int32 :=
  if (g (tN t) : Int32) = 0 then
    1
  else
    if (a : Int32) ≤ sp_X5_temperatureOf g t ((g (tN t)) - 1) then
      0
    else
      if (b : Int32) ≤ sp_X5_ratioOf g t ((g (tN t)) - 1) then
        0
      else
        1
set_option maxHeartbeats 4000000 in
set_option maxRecDepth 100000 in
theorem k_X5_mayGoOn (l : Launch) (E : En) (μ : Mu) {j : Nat} (hj : j < 6) {t : Nat} (ht : t < 3) (a : Int32) (b : Int32)  : MtI l yX5_mayGoOn cX5_mayGoOn 3 .boolean ({ frames := 1, cells := 0, slots := 0, locals := 21 }) [.ref (E.1 (iT j t)), .int (a), .int (b)] E μ ((sp_X5_mayGoOn (μ.1 j) t a b), μ) := by
  refine mt_of (by decide +kernel) (Nat.le_of_ble_eq_true rfl) ?_
  intro p e s m args below meth c ls hf hr hlocks hl hw
  have hx := hf.1
  have hb := hf.2.1
  have hl : lv_has ls 3 [(0, .ref (E.1 (iT j t))), (1, .int (a)), (2, .int (b))] := hl
  refine lv_aload_n hx hb dX5_mayGoOn_0 rfl (lv_at hl 0 rfl) ?_
  refine g_f hw hf (lt_iT hj ht) (c_iT E _ hj ht) rfl inlX5 0 (by decide) rfl q181 rfl dX5_mayGoOn_1 ?_
  refine lv_if_eq (tgt := 35) hx hb dX5_mayGoOn_4 (by decide) (fun c1 => ?_) (fun c1 => ?_)
  · refine lv_iconst (v := 1) hx hb dX5_mayGoOn_35 (by decide) ?_
    refine lv_goto (tgt := 40) hx hb dX5_mayGoOn_36 (by decide) ?_
    exact e_i hf hr hlocks hw rfl (congrArg (fun z => (z, μ)) ((if_pos c1).trans rfl)) dX5_mayGoOn_40
  · refine lv_iload_n hx hb dX5_mayGoOn_7 rfl (lv_at hl 1 rfl) ?_
    refine lv_aload_n hx hb dX5_mayGoOn_8 rfl (lv_at hl 0 rfl) ?_
    refine lv_aload_n hx hb dX5_mayGoOn_9 rfl (lv_at hl 0 rfl) ?_
    refine g_f hw hf (lt_iT hj ht) (c_iT E _ hj ht) rfl inlX5 0 (by decide) rfl q181 rfl dX5_mayGoOn_10 ?_
    refine lv_iconst (v := 1) hx hb dX5_mayGoOn_13 (by decide) ?_
    refine lv_isub hx hb dX5_mayGoOn_14 ?_
    refine c_iR hw (run_V (As := [.int ((μ.1 j (tN t)) - 1)]) (rest := [.int (a)]) (np := 1) hf hw (k_X5_temperatureOf l E _ hj ht ((μ.1 j (tN t)) - 1)  ) ⟨gl_V q182 q161 q162 q54 q163, by decide +kernel⟩ ⟨rfl, rfl, Nat.le_of_ble_eq_true rfl, Nat.le_of_ble_eq_true rfl⟩ (lt_iT hj ht) (c_iT E _ hj ht) rfl rfl hl.1 rfl (Nat.le_of_ble_eq_true rfl) dX5_mayGoOn_15 ⟨Nat.zero_le _, Nat.zero_le _⟩) (fun H locs hw => ?_)
    refine lv_icmp_le (tgt := 39) hx hb dX5_mayGoOn_18 (by decide) (fun c2 => ?_) (fun c2 => ?_)
    · refine lv_iconst (v := 0) hx hb dX5_mayGoOn_39 (by decide) ?_
      exact e_i hf hr hlocks hw rfl (congrArg (fun z => (z, μ)) ((if_neg c1).trans ((if_pos c2).trans rfl))) dX5_mayGoOn_40
    · refine lv_iload_n hx hb dX5_mayGoOn_21 rfl (lv_at hl 2 rfl) ?_
      refine lv_aload_n hx hb dX5_mayGoOn_22 rfl (lv_at hl 0 rfl) ?_
      refine lv_aload_n hx hb dX5_mayGoOn_23 rfl (lv_at hl 0 rfl) ?_
      refine g_f hw hf (lt_iT hj ht) (c_iT E _ hj ht) rfl inlX5 0 (by decide) rfl q181 rfl dX5_mayGoOn_24 ?_
      refine lv_iconst (v := 1) hx hb dX5_mayGoOn_27 (by decide) ?_
      refine lv_isub hx hb dX5_mayGoOn_28 ?_
      refine c_iR hw (run_V (As := [.int ((μ.1 j (tN t)) - 1)]) (rest := [.int (b)]) (np := 1) hf hw (k_X5_ratioOf l E _ hj ht ((μ.1 j (tN t)) - 1)  ) ⟨gl_V q197 q165 q166 q54 q167, by decide +kernel⟩ ⟨rfl, rfl, Nat.le_of_ble_eq_true rfl, Nat.le_of_ble_eq_true rfl⟩ (lt_iT hj ht) (c_iT E _ hj ht) rfl rfl hl.1 rfl (Nat.le_of_ble_eq_true rfl) dX5_mayGoOn_29 ⟨Nat.zero_le _, Nat.zero_le _⟩) (fun H locs hw => ?_)
      refine lv_icmp_le (tgt := 39) hx hb dX5_mayGoOn_32 (by decide) (fun c3 => ?_) (fun c3 => ?_)
      · refine lv_iconst (v := 0) hx hb dX5_mayGoOn_39 (by decide) ?_
        exact e_i hf hr hlocks hw rfl (congrArg (fun z => (z, μ)) ((if_neg c1).trans ((if_neg c2).trans ((if_pos c3).trans rfl)))) dX5_mayGoOn_40
      · refine lv_iconst (v := 1) hx hb dX5_mayGoOn_35 (by decide) ?_
        refine lv_goto (tgt := 40) hx hb dX5_mayGoOn_36 (by decide) ?_
        exact e_i hf hr hlocks hw rfl (congrArg (fun z => (z, μ)) ((if_neg c1).trans ((if_neg c2).trans ((if_neg c3).trans rfl)))) dX5_mayGoOn_40
def sp_X5_append (μ : Mu) (j : Nat) (t : Nat) (a : Int32) (b : Int32) : Mu :=
  if (μ.1 j (tN t) : Int32) < 0 then
    μ
  else
    if (12 : Int32) ≤ μ.1 j (tN t) then
      μ
    else
      if (12 : Int32) ≤ μ.1 j (tN t) then
        μ
      else
        pM (pM (pM μ j (tD t (((μ.1 j (tN t)).toNatClampNeg))) a) j (tR t (((μ.1 j (tN t)).toNatClampNeg))) b) j (tN t) ((μ.1 j (tN t)) + 1)
set_option maxHeartbeats 4000000 in
set_option maxRecDepth 100000 in
theorem k_X5_append (l : Launch) (E : En) (μ : Mu) {j : Nat} (hj : j < 6) {t : Nat} (ht : t < 3) (a : Int32) (b : Int32)  : MtV l yX5_append cX5_append 3 ({ frames := 0, cells := 0, slots := 0, locals := 0 }) [.ref (E.1 (iT j t)), .int (a), .int (b)] E μ (sp_X5_append μ j t a b) := by
  refine mt_of (by decide +kernel) (Nat.le_of_ble_eq_true rfl) ?_
  intro p e s m args below meth c ls hf hr hlocks hl hw
  have hx := hf.1
  have hb := hf.2.1
  have hl : lv_has ls 3 [(0, .ref (E.1 (iT j t))), (1, .int (a)), (2, .int (b))] := hl
  refine lv_aload_n hx hb dX5_append_0 rfl (lv_at hl 0 rfl) ?_
  refine g_f hw hf (lt_iT hj ht) (c_iT E _ hj ht) rfl inlX5 0 (by decide) rfl q181 rfl dX5_append_1 ?_
  refine lv_if_lt (tgt := 61) hx hb dX5_append_4 (by decide) (fun c1 => ?_) (fun c1 => ?_)
  · exact e_v hf hr hlocks hw ((if_pos c1).trans rfl) dX5_append_61
  · refine lv_aload_n hx hb dX5_append_7 rfl (lv_at hl 0 rfl) ?_
    refine g_f hw hf (lt_iT hj ht) (c_iT E _ hj ht) rfl inlX5 0 (by decide) rfl q181 rfl dX5_append_8 ?_
    refine lv_aload_n hx hb dX5_append_11 rfl (lv_at hl 0 rfl) ?_
    refine g_f hw hf (lt_iT hj ht) (c_iT E _ hj ht) rfl inlX5 1 (by decide) rfl q64 rfl dX5_append_12 ?_
    refine g_n hw hf (lt_iTt hj ht) (c_iTt E _ hj ht) (t0 := 0) (v := 12) rfl rfl dX5_append_15 ?_
    refine lv_icmp_ge (tgt := 61) hx hb dX5_append_16 (by decide) (fun c2 => ?_) (fun c2 => ?_)
    · exact e_v hf hr hlocks hw ((if_neg c1).trans ((if_pos c2).trans rfl)) dX5_append_61
    · refine lv_aload_n hx hb dX5_append_19 rfl (lv_at hl 0 rfl) ?_
      refine g_f hw hf (lt_iT hj ht) (c_iT E _ hj ht) rfl inlX5 0 (by decide) rfl q181 rfl dX5_append_20 ?_
      refine lv_aload_n hx hb dX5_append_23 rfl (lv_at hl 0 rfl) ?_
      refine g_f hw hf (lt_iT hj ht) (c_iT E _ hj ht) rfl inlX5 2 (by decide) rfl q65 rfl dX5_append_24 ?_
      refine g_n hw hf (lt_iTr hj ht) (c_iTr E _ hj ht) (t0 := 0) (v := 12) rfl rfl dX5_append_27 ?_
      refine lv_icmp_ge (tgt := 61) hx hb dX5_append_28 (by decide) (fun c3 => ?_) (fun c3 => ?_)
      · exact e_v hf hr hlocks hw ((if_neg c1).trans ((if_neg c2).trans ((if_pos c3).trans rfl))) dX5_append_61
      · refine lv_aload_n hx hb dX5_append_31 rfl (lv_at hl 0 rfl) ?_
        refine g_f hw hf (lt_iT hj ht) (c_iT E _ hj ht) rfl inlX5 1 (by decide) rfl q64 rfl dX5_append_32 ?_
        refine lv_aload_n hx hb dX5_append_35 rfl (lv_at hl 0 rfl) ?_
        refine g_f hw hf (lt_iT hj ht) (c_iT E _ hj ht) rfl inlX5 0 (by decide) rfl q181 rfl dX5_append_36 ?_
        refine lv_iload_n hx hb dX5_append_39 rfl (lv_at hl 1 rfl) ?_
        refine p_a hw hf (lt_iTt hj ht) (c_iTt E _ hj ht) (vin 12 12 (by decide) (by decide) rfl c1 c3) (s_iTt E _ hj ht (vin_lt (vin 12 12 (by decide) (by decide) rfl c1 c3)) _) dX5_append_40 (fun H locs hw => ?_)
        refine lv_aload_n hx hb dX5_append_41 rfl (lv_at hl 0 rfl) ?_
        refine g_f hw hf (lt_iT hj ht) (c_iT E _ hj ht) rfl inlX5 2 (by decide) rfl q65 rfl dX5_append_42 ?_
        refine lv_aload_n hx hb dX5_append_45 rfl (lv_at hl 0 rfl) ?_
        refine g_f hw hf (lt_iT hj ht) (c_iT E _ hj ht) rfl inlX5 0 (by decide) rfl q181 (congrArg (fun z => some (Value.int z)) (show _ = μ.1 j (tN t) from (by first | (simp [pM, pJ, upM, upJ, sF, tN, tD, tR]; done) | (simp (disch := (first | omega | (simp only [tN, tD, tR, sF]; omega))) only [pM, pJ, upM_s, upM_k, upM_c, upJ_s, upJ_k, upJ_c])))) dX5_append_46 ?_
        refine lv_iload_n hx hb dX5_append_49 rfl (lv_at hl 2 rfl) ?_
        refine p_a hw hf (lt_iTr hj ht) (c_iTr E _ hj ht) (vin 12 12 (by decide) (by decide) rfl c1 c3) (s_iTr E _ hj ht (vin_lt (vin 12 12 (by decide) (by decide) rfl c1 c3)) _) dX5_append_50 (fun H locs hw => ?_)
        refine lv_aload_n hx hb dX5_append_51 rfl (lv_at hl 0 rfl) ?_
        refine lv_dup hx hb dX5_append_52 rfl ?_
        refine g_f hw hf (lt_iT hj ht) (c_iT E _ hj ht) rfl inlX5 0 (by decide) rfl q181 (congrArg (fun z => some (Value.int z)) (show _ = μ.1 j (tN t) from (by first | (simp [pM, pJ, upM, upJ, sF, tN, tD, tR]; done) | (simp (disch := (first | omega | (simp only [tN, tD, tR, sF]; omega))) only [pM, pJ, upM_s, upM_k, upM_c, upJ_s, upJ_k, upJ_c])))) dX5_append_53 ?_
        refine lv_iconst (v := 1) hx hb dX5_append_56 (by decide) ?_
        refine lv_iadd hx hb dX5_append_57 ?_
        refine p_f hw hf (lt_iT hj ht) (c_iT E _ hj ht) rfl inlX5 tyX5_ok nmX5 0 (by decide) rfl q181 rfl rfl rfl (Nat.le_of_ble_eq_true rfl) (s_T_0 E _ hj ht _) dX5_append_58 (fun H locs hw => ?_)
        exact e_v hf hr hlocks hw ((if_neg c1).trans ((if_neg c2).trans ((if_neg c3).trans rfl))) dX5_append_61
def sp_X5_goesTo (g : Nat → Int32) (t : Nat) (w : Int32) : Int32 :=
  if (g (tN t) : Int32) < 2 then
    0
  else
    if (w : Int32) < sp_X5_temperatureOf g t (0 : Int32) then
      0
    else
      if (sp_X5_temperatureOf g t ((g (tN t)) - 1) : Int32) < w then
        0
      else
        1
set_option maxHeartbeats 4000000 in
set_option maxRecDepth 100000 in
theorem k_X5_goesTo (l : Launch) (E : En) (μ : Mu) {j : Nat} (hj : j < 6) {t : Nat} (ht : t < 3) (w : Int32)  : MtI l yX5_goesTo cX5_goesTo 2 .boolean ({ frames := 1, cells := 0, slots := 0, locals := 21 }) [.ref (E.1 (iT j t)), .int (w)] E μ ((sp_X5_goesTo (μ.1 j) t w), μ) := by
  refine mt_of (by decide +kernel) (Nat.le_of_ble_eq_true rfl) ?_
  intro p e s m args below meth c ls hf hr hlocks hl hw
  have hx := hf.1
  have hb := hf.2.1
  have hl : lv_has ls 2 [(0, .ref (E.1 (iT j t))), (1, .int (w))] := hl
  refine lv_aload_n hx hb dX5_goesTo_0 rfl (lv_at hl 0 rfl) ?_
  refine g_f hw hf (lt_iT hj ht) (c_iT E _ hj ht) rfl inlX5 0 (by decide) rfl q181 rfl dX5_goesTo_1 ?_
  refine lv_iconst (v := 2) hx hb dX5_goesTo_4 (by decide) ?_
  refine lv_icmp_lt (tgt := 35) hx hb dX5_goesTo_5 (by decide) (fun c1 => ?_) (fun c1 => ?_)
  · refine lv_iconst (v := 0) hx hb dX5_goesTo_35 (by decide) ?_
    exact e_i hf hr hlocks hw rfl (congrArg (fun z => (z, μ)) ((if_pos c1).trans rfl)) dX5_goesTo_36
  · refine lv_iload_n hx hb dX5_goesTo_8 rfl (lv_at hl 1 rfl) ?_
    refine lv_aload_n hx hb dX5_goesTo_9 rfl (lv_at hl 0 rfl) ?_
    refine lv_iconst (v := 0) hx hb dX5_goesTo_10 (by decide) ?_
    refine c_iR hw (run_V (As := [.int 0]) (rest := [.int (w)]) (np := 1) hf hw (k_X5_temperatureOf l E _ hj ht (0 : Int32)  ) ⟨gl_V q182 q161 q162 q54 q163, by decide +kernel⟩ ⟨rfl, rfl, Nat.le_of_ble_eq_true rfl, Nat.le_of_ble_eq_true rfl⟩ (lt_iT hj ht) (c_iT E _ hj ht) rfl rfl hl.1 rfl (Nat.le_of_ble_eq_true rfl) dX5_goesTo_11 ⟨Nat.zero_le _, Nat.zero_le _⟩) (fun H locs hw => ?_)
    refine lv_icmp_lt (tgt := 35) hx hb dX5_goesTo_14 (by decide) (fun c2 => ?_) (fun c2 => ?_)
    · refine lv_iconst (v := 0) hx hb dX5_goesTo_35 (by decide) ?_
      exact e_i hf hr hlocks hw rfl (congrArg (fun z => (z, μ)) ((if_neg c1).trans ((if_pos c2).trans rfl))) dX5_goesTo_36
    · refine lv_iload_n hx hb dX5_goesTo_17 rfl (lv_at hl 1 rfl) ?_
      refine lv_aload_n hx hb dX5_goesTo_18 rfl (lv_at hl 0 rfl) ?_
      refine lv_aload_n hx hb dX5_goesTo_19 rfl (lv_at hl 0 rfl) ?_
      refine g_f hw hf (lt_iT hj ht) (c_iT E _ hj ht) rfl inlX5 0 (by decide) rfl q181 rfl dX5_goesTo_20 ?_
      refine lv_iconst (v := 1) hx hb dX5_goesTo_23 (by decide) ?_
      refine lv_isub hx hb dX5_goesTo_24 ?_
      refine c_iR hw (run_V (As := [.int ((μ.1 j (tN t)) - 1)]) (rest := [.int (w)]) (np := 1) hf hw (k_X5_temperatureOf l E _ hj ht ((μ.1 j (tN t)) - 1)  ) ⟨gl_V q182 q161 q162 q54 q163, by decide +kernel⟩ ⟨rfl, rfl, Nat.le_of_ble_eq_true rfl, Nat.le_of_ble_eq_true rfl⟩ (lt_iT hj ht) (c_iT E _ hj ht) rfl rfl hl.1 rfl (Nat.le_of_ble_eq_true rfl) dX5_goesTo_25 ⟨Nat.zero_le _, Nat.zero_le _⟩) (fun H locs hw => ?_)
      refine lv_icmp_gt (tgt := 35) hx hb dX5_goesTo_28 (by decide) (fun c3 => ?_) (fun c3 => ?_)
      · refine lv_iconst (v := 0) hx hb dX5_goesTo_35 (by decide) ?_
        exact e_i hf hr hlocks hw rfl (congrArg (fun z => (z, μ)) ((if_neg c1).trans ((if_neg c2).trans ((if_pos c3).trans rfl)))) dX5_goesTo_36
      · refine lv_iconst (v := 1) hx hb dX5_goesTo_31 (by decide) ?_
        refine lv_goto (tgt := 36) hx hb dX5_goesTo_32 (by decide) ?_
        exact e_i hf hr hlocks hw rfl (congrArg (fun z => (z, μ)) ((if_neg c1).trans ((if_neg c2).trans ((if_neg c3).trans rfl)))) dX5_goesTo_36
def sp_X5_nearest (g : Nat → Int32) (t : Nat) (w : Int32) : Int32 :=
  mnI (mxI w (sp_X5_temperatureOf g t (0 : Int32))) (sp_X5_temperatureOf g t ((g (tN t)) - 1))
set_option maxHeartbeats 4000000 in
set_option maxRecDepth 100000 in
theorem k_X5_nearest (l : Launch) (E : En) (μ : Mu) {j : Nat} (hj : j < 6) {t : Nat} (ht : t < 3) (w : Int32)  : MtI l yX5_nearest cX5_nearest 2 .int ({ frames := 1, cells := 0, slots := 0, locals := 21 }) [.ref (E.1 (iT j t)), .int (w)] E μ ((sp_X5_nearest (μ.1 j) t w), μ) := by
  refine mt_of (by decide +kernel) (Nat.le_of_ble_eq_true rfl) ?_
  intro p e s m args below meth c ls hf hr hlocks hl hw
  have hx := hf.1
  have hb := hf.2.1
  have hl : lv_has ls 2 [(0, .ref (E.1 (iT j t))), (1, .int (w))] := hl
  refine lv_iload_n hx hb dX5_nearest_0 rfl (lv_at hl 1 rfl) ?_
  refine lv_aload_n hx hb dX5_nearest_1 rfl (lv_at hl 0 rfl) ?_
  refine lv_iconst (v := 0) hx hb dX5_nearest_2 (by decide) ?_
  refine c_iR hw (run_V (As := [.int 0]) (rest := [.int (w)]) (np := 1) hf hw (k_X5_temperatureOf l E _ hj ht (0 : Int32)  ) ⟨gl_V q182 q161 q162 q54 q163, by decide +kernel⟩ ⟨rfl, rfl, Nat.le_of_ble_eq_true rfl, Nat.le_of_ble_eq_true rfl⟩ (lt_iT hj ht) (c_iT E _ hj ht) rfl rfl hl.1 rfl (Nat.le_of_ble_eq_true rfl) dX5_nearest_3 ⟨Nat.zero_le _, Nat.zero_le _⟩) (fun H locs hw => ?_)
  refine va_mmax hx hb (hf.2.2.1.trans hl.1.symm) hf.2.2.2.1 (hf.2.2.2.2 _ q457) (hf.2.2.2.2 _ q458) (hf.2.2.2.2 _ q291) (hf.2.2.2.2 _ q459) (Nat.le_of_ble_eq_true rfl) (Nat.le_of_ble_eq_true rfl) (Nat.zero_le _) (Nat.zero_le _) dX5_nearest_6 ?_
  refine lv_aload_n hx hb dX5_nearest_9 rfl (lv_at hl 0 rfl) ?_
  refine lv_aload_n hx hb dX5_nearest_10 rfl (lv_at hl 0 rfl) ?_
  refine g_f hw hf (lt_iT hj ht) (c_iT E _ hj ht) rfl inlX5 0 (by decide) rfl q181 rfl dX5_nearest_11 ?_
  refine lv_iconst (v := 1) hx hb dX5_nearest_14 (by decide) ?_
  refine lv_isub hx hb dX5_nearest_15 ?_
  refine c_iR hw (run_V (As := [.int ((μ.1 j (tN t)) - 1)]) (rest := [.int (mxI w (sp_X5_temperatureOf (μ.1 j) t (0 : Int32)))]) (np := 1) hf hw (k_X5_temperatureOf l E _ hj ht ((μ.1 j (tN t)) - 1)  ) ⟨gl_V q182 q161 q162 q54 q163, by decide +kernel⟩ ⟨rfl, rfl, Nat.le_of_ble_eq_true rfl, Nat.le_of_ble_eq_true rfl⟩ (lt_iT hj ht) (c_iT E _ hj ht) rfl rfl hl.1 rfl (Nat.le_of_ble_eq_true rfl) dX5_nearest_16 ⟨Nat.zero_le _, Nat.zero_le _⟩) (fun H locs hw => ?_)
  refine va_mmin hx hb (hf.2.2.1.trans hl.1.symm) hf.2.2.2.1 (hf.2.2.2.2 _ q460) (hf.2.2.2.2 _ q461) (hf.2.2.2.2 _ q291) (hf.2.2.2.2 _ q462) (Nat.le_of_ble_eq_true rfl) (Nat.le_of_ble_eq_true rfl) (Nat.zero_le _) (Nat.zero_le _) dX5_nearest_19 ?_
  exact e_i hf hr hlocks hw rfl (congrArg (fun z => (z, μ)) rfl) dX5_nearest_22
def sp_X5_copy (μ : Mu) (j : Nat) (t : Nat) (j2 : Nat) (t2 : Nat)  : Mu :=
  pC (pC (pM μ j (tN t) (μ.1 j2 (tN t2))) j (tD t 0) j2 (tD t2 0) 12) j (tR t 0) j2 (tR t2 0) 12
set_option maxHeartbeats 4000000 in
set_option maxRecDepth 100000 in
theorem k_X5_copy (l : Launch) (E : En) (μ : Mu) {j : Nat} (hj : j < 6) {t : Nat} (ht : t < 3) {j2 : Nat} (hj2 : j2 < 6) {t2 : Nat} (ht2 : t2 < 3)  (hne : j2 ≠ j) : MtV l yX5_copy cX5_copy 2 ({ frames := 1, cells := 0, slots := 0, locals := 40 }) [.ref (E.1 (iT j t)), .ref (E.1 (iT j2 t2))] E μ (sp_X5_copy μ j t j2 t2) := by
  refine mt_of (by decide +kernel) (Nat.le_of_ble_eq_true rfl) ?_
  intro p e s m args below meth c ls hf hr hlocks hl hw
  have hx := hf.1
  have hb := hf.2.1
  have hl : lv_has ls 2 [(0, .ref (E.1 (iT j t))), (1, .ref (E.1 (iT j2 t2)))] := hl
  refine lv_aload_n hx hb dX5_copy_0 rfl (lv_at hl 0 rfl) ?_
  refine lv_aload_n hx hb dX5_copy_1 rfl (lv_at hl 1 rfl) ?_
  refine g_f hw hf (lt_iT hj2 ht2) (c_iT E _ hj2 ht2) rfl inlX5 0 (by decide) rfl q181 rfl dX5_copy_2 ?_
  refine p_f hw hf (lt_iT hj ht) (c_iT E _ hj ht) rfl inlX5 tyX5_ok nmX5 0 (by decide) rfl q181 rfl rfl rfl (Nat.le_of_ble_eq_true rfl) (s_T_0 E _ hj ht _) dX5_copy_5 (fun H locs hw => ?_)
  refine lv_aload_n hx hb dX5_copy_8 rfl (lv_at hl 1 rfl) ?_
  refine g_f hw hf (lt_iT hj2 ht2) (c_iT E _ hj2 ht2) rfl inlX5 1 (by decide) rfl q64 rfl dX5_copy_9 ?_
  refine lv_iconst (v := 0) hx hb dX5_copy_12 (by decide) ?_
  refine lv_aload_n hx hb dX5_copy_13 rfl (lv_at hl 0 rfl) ?_
  refine g_f hw hf (lt_iT hj ht) (c_iT E _ hj ht) rfl inlX5 1 (by decide) rfl q64 rfl dX5_copy_14 ?_
  refine lv_iconst (v := 0) hx hb dX5_copy_17 (by decide) ?_
  refine lv_bipush (v := 12) hx hb dX5_copy_18 (by decide) ?_
  refine a_cp hw hf hl.1 (lt_iTt hj2 ht2) (tb_iTt _ hj2 _ ht2) (lt_iTt hj ht) (tb_iTt _ hj _ ht) q409 q58 q59 q60 (by decide) (Nat.le_of_ble_eq_true rfl) (Nat.le_of_ble_eq_true rfl) dX5_copy_20 (fun H locs hw => ?_)
  refine lv_aload_n hx hb dX5_copy_23 rfl (lv_at hl 1 rfl) ?_
  refine g_f hw hf (lt_iT hj2 ht2) (c_iT E _ hj2 ht2) rfl inlX5 2 (by decide) rfl q65 rfl dX5_copy_24 ?_
  refine lv_iconst (v := 0) hx hb dX5_copy_27 (by decide) ?_
  refine lv_aload_n hx hb dX5_copy_28 rfl (lv_at hl 0 rfl) ?_
  refine g_f hw hf (lt_iT hj ht) (c_iT E _ hj ht) rfl inlX5 2 (by decide) rfl q65 rfl dX5_copy_29 ?_
  refine lv_iconst (v := 0) hx hb dX5_copy_32 (by decide) ?_
  refine lv_bipush (v := 12) hx hb dX5_copy_33 (by decide) ?_
  refine a_cp hw hf hl.1 (lt_iTr hj2 ht2) (tb_iTr _ hj2 _ ht2) (lt_iTr hj ht) (tb_iTr _ hj _ ht) q409 q58 q59 q60 (by decide) (Nat.le_of_ble_eq_true rfl) (Nat.le_of_ble_eq_true rfl) dX5_copy_35 (fun H locs hw => ?_)
  exact e_v hf hr hlocks hw rfl dX5_copy_38
