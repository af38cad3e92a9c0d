/-! ===== OhmBridge: texts ===== -/
theorem ch_i2c (x : Int32) : 0 ≤ ((x.toUInt32 % 65536).toInt32).toInt ∧ ((x.toUInt32 % 65536).toInt32).toInt < 65536 := by
  rw [pk_char, nI_toInt (by omega)]
  omega
def sp_X7_type (μ : Mu)  (a : Int32) : Int32 × Mu :=
  if (32 : Int64) ≤ (a.toInt64) ∧ (a.toInt64) ≤ (126 : Int64) then
    if (μ.1 6 3 : Int32) < 60 then
      ((sp_X6_append μ  ((a.toUInt32 % 65536).toInt32)).1 6 3, sp_X6_append μ  ((a.toUInt32 % 65536).toInt32))
    else
      ((-2000000003), μ)
  else
    ((-2000000001), μ)
set_option maxHeartbeats 4000000 in
set_option maxRecDepth 100000 in
theorem k_X7_type (l : Launch) (E : En) (μ : Mu)  (a : Int32) (hch : ChOk (μ.1 6)) : MtI l yX7_type cX7_type 2 .int ({ frames := 1, cells := 0, slots := 0, locals := 25 }) [.ref (E.1 (231)), .int (a)] E μ (sp_X7_type μ a) := by
  refine mt_of (by decide +kernel) (Nat.le_of_ble_eq_true rfl) ?_
  intro p e s m args below meth c ls hf hr hlocks hl hw
  have hx := hf.1
  have hb := hf.2.1
  have hl : lv_has ls 2 [(0, .ref (E.1 (231))), (1, .int (a))] := hl
  refine lv_iload_n hx hb dX7_type_0 rfl (lv_at hl 1 rfl) ?_
  refine lv_i2l hx hb dX7_type_1 rfl ?_
  refine lv_ldc2 hx hb hf.2.2.2.1 (hf.2.2.2.2 _ q913) dX7_type_2 ?_
  refine lv_ldc2 hx hb hf.2.2.2.1 (hf.2.2.2.2 _ q914) dX7_type_5 ?_
  refine c_iR hw (run_S (As := [.long (a.toInt64), .long (32), .long (126)]) (rest := []) (np := 3) hf hw (kn_X7_isWithin l E _  (a.toInt64) (32 : Int64) (126 : Int64)  ) ⟨gl_S q173 q174 q2 q175, by decide +kernel⟩ ⟨rfl, rfl, Nat.le_of_ble_eq_true rfl, Nat.le_of_ble_eq_true rfl⟩ rfl hl.1 rfl (Nat.le_of_ble_eq_true rfl) dX7_type_8 ⟨Nat.zero_le _, Nat.zero_le _⟩) (fun H locs hw => ?_)
  refine lv_if_ne (tgt := 17) hx hb dX7_type_11 (by decide) (fun c1 => ?_) (fun c1 => ?_)
  · replace c1 := (bz_n0 _).mp c1
    refine lv_aload_n hx hb dX7_type_17 rfl (lv_at hl 0 rfl) ?_
    refine g_f hw hf (by decide) (c_O E _) rfl inlX7 5 (by decide) rfl q32 rfl dX7_type_18 ?_
    refine g_f hw hf (by decide) (c_Tx E _) rfl inlX6 0 (by decide) rfl q876 rfl dX7_type_21 ?_
    refine lv_bipush (v := 60) hx hb dX7_type_24 (by decide) ?_
    refine lv_icmp_lt (tgt := 32) hx hb dX7_type_26 (by decide) (fun c2 => ?_) (fun c2 => ?_)
    · refine lv_aload_n hx hb dX7_type_32 rfl (lv_at hl 0 rfl) ?_
      refine g_f hw hf (by decide) (c_O E _) rfl inlX7 5 (by decide) rfl q32 rfl dX7_type_33 ?_
      refine lv_iload_n hx hb dX7_type_36 rfl (lv_at hl 1 rfl) ?_
      refine lv_i2c hx hb dX7_type_37 rfl ?_
      refine c_v hw (run_V (As := [.int ((a.toUInt32 % 65536).toInt32)]) (rest := []) (np := 1) hf hw (k_X6_append l E _  ((a.toUInt32 % 65536).toInt32)  (ch_i2c _)) ⟨gl_V q915 q916 q917 q31 q918, by decide +kernel⟩ ⟨rfl, rfl, Nat.le_of_ble_eq_true rfl, Nat.le_of_ble_eq_true rfl⟩ (by decide) (c_Tx E _) rfl rfl hl.1 rfl (Nat.le_of_ble_eq_true rfl) dX7_type_38 ⟨Nat.zero_le _, Nat.zero_le _⟩) (fun H locs hw => ?_)
      refine lv_aload_n hx hb dX7_type_41 rfl (lv_at hl 0 rfl) ?_
      refine g_f hw hf (by decide) (c_O E _) rfl inlX7 5 (by decide) rfl q32 rfl dX7_type_42 ?_
      refine g_f hw hf (by decide) (c_Tx E _) rfl inlX6 0 (by decide) rfl q876 rfl dX7_type_45 ?_
      exact e_i hf hr hlocks hw rfl ((if_pos c1).trans ((if_pos c2).trans rfl)) dX7_type_48
    · refine lv_ldc hx hb hf.2.2.2.1 (hf.2.2.2.2 _ q103) dX7_type_29 ?_
      exact e_i hf hr hlocks hw rfl ((if_pos c1).trans ((if_neg c2).trans rfl)) dX7_type_31
  · replace c1 := (bz_0 _).mp c1
    refine lv_ldc hx hb hf.2.2.2.1 (hf.2.2.2.2 _ q161) dX7_type_14 ?_
    exact e_i hf hr hlocks hw rfl ((if_neg c1).trans rfl) dX7_type_16
theorem ch_X7_type (μ : Mu)  (a : Int32) (hch : ChOk (μ.1 6)) : ChOk ((sp_X7_type μ a).2.1 6) := by
  unfold sp_X7_type
  exact (ch_ite (ch_ite (ch_lf (ch_X6_append _ _ (ch_i2c _) hch)) (ch_lf hch)) (ch_lf hch))
def lp_X7_insertSorted_2 (μ : Mu)  (v : Int32) (k0 : Nat) : Nat → Nat → Mu → Mu
  | 0, _, μ1 => μ1
  | f + 1, k, μ1 =>
    if (nI k : Int32) ≤ 0 then
      if (nI k : Int32) < 0 then
        μ1
      else
        if (9 : Int32) ≤ nI k then
          μ1
        else
          pM μ1 6 (68 + k) v
    else
      if (9 : Int32) ≤ nI k then
        if (nI k : Int32) < 0 then
          μ1
        else
          if (9 : Int32) ≤ nI k then
            μ1
          else
            pM μ1 6 (68 + k) v
      else
        if ((μ1).1 6 (68 + (k - 1)) : Int32) ≤ v then
          if (nI k : Int32) < 0 then
            μ1
          else
            if (9 : Int32) ≤ nI k then
              μ1
            else
              pM μ1 6 (68 + k) v
        else
          lp_X7_insertSorted_2 μ v k0 f (k - 1) (pM μ1 6 (68 + k) ((μ1).1 6 (68 + (k - 1))))
def sp_X7_insertSorted (μ : Mu)  (v : Int32) (k0 : Nat) : Mu :=
  lp_X7_insertSorted_2 μ v k0 (k0 + 1) k0 μ
set_option maxHeartbeats 4000000 in
set_option maxRecDepth 100000 in
theorem k_X7_insertSorted (l : Launch) (E : En) (μ : Mu)  (v : Int32) (k0 : Nat) (hk0 : k0 < 9) : MtV l yX7_insertSorted cX7_insertSorted 4 ({ frames := 0, cells := 0, slots := 0, locals := 0 }) [.ref (E.1 (231)), .int (v), .int (nI k0)] E μ (sp_X7_insertSorted μ v k0) := by
  refine mt_of (by decide +kernel) (Nat.le_of_ble_eq_true rfl) ?_
  intro p e s m args below meth c ls hf hr hlocks hl hw
  have hx := hf.1
  have hb := hf.2.1
  have hl : lv_has ls 4 [(0, .ref (E.1 (231))), (1, .int (v)), (2, .int (nI k0))] := hl
  refine lv_iload_n hx hb dX7_insertSorted_0 rfl (lv_at hl 2 rfl) ?_
  refine lv_istore_n (lv' := [(3, .int (nI k0)), (0, .ref (E.1 (231))), (1, .int (v)), (2, .int (nI k0))]) hx hb dX7_insertSorted_1 rfl hl (by decide) rfl (fun ls hl => ?_)
  have key_2 : ∀ (f : Nat) (k : Nat) (μ1 : Mu), k < f → k < 9 → sp_X7_insertSorted μ v k0 = lp_X7_insertSorted_2 μ v k0 f k μ1 → ∀ (ls : Array Slot) (H : Heap) (locs : List Loc), lv_has ls 4 [(0, .ref (E.1 (231))), (1, .int (v)), (2, .int (nI k0)), (3, .int (nI k))] → Wk E μ1 s H locs → W p l e ({ frames := 0, cells := 0, slots := 0, locals := 0 }) s m args below meth c H locs 0 0 (MQ below (va_Qv (fun u => u = (sp_X7_insertSorted μ v k0)) (fun u t => WdU E u t) (inE E)) args s 0 0 (inE E)) (F0 m 2 ls []) := by
    intro f
    induction f with
    | zero => intro k μ1 h1 h2 hq ls H locs hl hw; exfalso; omega
    | succ f ih =>
      intro k μ1 h1 h2 hq ls H locs hl hw
      refine lv_iload_n hx hb dX7_insertSorted_2 rfl (lv_at hl 3 rfl) ?_
      refine lv_if_le (tgt := 47) hx hb dX7_insertSorted_3 (by decide) (fun c1 => ?_) (fun c1 => ?_)
      · have c1n : k ≤ 0 := by have q := (nI_leI (a := k) (b := 0) (by omega) (by omega)); first | exact q.mp c1 | exact fun z => c1 (q.mpr z)
        refine lv_iload_n hx hb dX7_insertSorted_47 rfl (lv_at hl 3 rfl) ?_
        refine lv_if_lt (tgt := 67) hx hb dX7_insertSorted_48 (by decide) (fun c2 => ?_) (fun c2 => ?_)
        · have c2n : k < 0 := by have q := (nI_ltI (a := k) (b := 0) (by omega) (by omega)); first | exact q.mp c2 | exact fun z => c2 (q.mpr z)
          exact e_v hf hr hlocks hw ((hq).trans ((if_pos c1).trans ((if_pos c2).trans rfl))) dX7_insertSorted_67
        · have c2n : ¬ k < 0 := by have q := (nI_ltI (a := k) (b := 0) (by omega) (by omega)); first | exact q.mp c2 | exact fun z => c2 (q.mpr z)
          refine lv_iload_n hx hb dX7_insertSorted_51 rfl (lv_at hl 3 rfl) ?_
          refine lv_aload_n hx hb dX7_insertSorted_52 rfl (lv_at hl 0 rfl) ?_
          refine g_f hw hf (by decide) (c_O E _) rfl inlX7 6 (by decide) rfl q34 rfl dX7_insertSorted_53 ?_
          refine g_n hw hf (by decide) (c_So E _) (t0 := 0) (v := 9) rfl rfl dX7_insertSorted_56 ?_
          refine lv_icmp_ge (tgt := 67) hx hb dX7_insertSorted_57 (by decide) (fun c3 => ?_) (fun c3 => ?_)
          · have c3n : 9 ≤ k := by have q := (nI_leI (a := 9) (b := k) (by omega) (by omega)); first | exact q.mp c3 | exact fun z => c3 (q.mpr z)
            exact e_v hf hr hlocks hw ((hq).trans ((if_pos c1).trans ((if_neg c2).trans ((if_pos c3).trans rfl)))) dX7_insertSorted_67
          · have c3n : ¬ 9 ≤ k := by have q := (nI_leI (a := 9) (b := k) (by omega) (by omega)); first | exact q.mp c3 | exact fun z => c3 (q.mpr z)
            refine lv_aload_n hx hb dX7_insertSorted_60 rfl (lv_at hl 0 rfl) ?_
            refine g_f hw hf (by decide) (c_O E _) rfl inlX7 6 (by decide) rfl q34 rfl dX7_insertSorted_61 ?_
            refine lv_iload_n hx hb dX7_insertSorted_64 rfl (lv_at hl 3 rfl) ?_
            refine lv_iload_n hx hb dX7_insertSorted_65 rfl (lv_at hl 1 rfl) ?_
            refine p_a hw hf (by decide) (c_So E _) (vp_in_nI (show k < 9 from (by omega)) (by decide)) (by rw [show (nI k).toNatClampNeg = k from (nI_clamp (Nat.lt_trans (show k < 9 from (by omega)) (by decide)))]; exact (s_So E _ (by omega) _)) dX7_insertSorted_66 (fun H locs hw => ?_)
            exact e_v hf hr hlocks hw ((hq).trans ((if_pos c1).trans ((if_neg c2).trans ((if_neg c3).trans rfl)))) dX7_insertSorted_67
      · have c1n : ¬ k ≤ 0 := by have q := (nI_leI (a := k) (b := 0) (by omega) (by omega)); first | exact q.mp c1 | exact fun z => c1 (q.mpr z)
        refine lv_iload_n hx hb dX7_insertSorted_6 rfl (lv_at hl 3 rfl) ?_
        refine lv_aload_n hx hb dX7_insertSorted_7 rfl (lv_at hl 0 rfl) ?_
        refine g_f hw hf (by decide) (c_O E _) rfl inlX7 6 (by decide) rfl q34 rfl dX7_insertSorted_8 ?_
        refine g_n hw hf (by decide) (c_So E _) (t0 := 0) (v := 9) rfl rfl dX7_insertSorted_11 ?_
        refine lv_icmp_ge (tgt := 47) hx hb dX7_insertSorted_12 (by decide) (fun c4 => ?_) (fun c4 => ?_)
        · have c4n : 9 ≤ k := by have q := (nI_leI (a := 9) (b := k) (by omega) (by omega)); first | exact q.mp c4 | exact fun z => c4 (q.mpr z)
          refine lv_iload_n hx hb dX7_insertSorted_47 rfl (lv_at hl 3 rfl) ?_
          refine lv_if_lt (tgt := 67) hx hb dX7_insertSorted_48 (by decide) (fun c5 => ?_) (fun c5 => ?_)
          · have c5n : k < 0 := by have q := (nI_ltI (a := k) (b := 0) (by omega) (by omega)); first | exact q.mp c5 | exact fun z => c5 (q.mpr z)
            exact e_v hf hr hlocks hw ((hq).trans ((if_neg c1).trans ((if_pos c4).trans ((if_pos c5).trans rfl)))) dX7_insertSorted_67
          · have c5n : ¬ k < 0 := by have q := (nI_ltI (a := k) (b := 0) (by omega) (by omega)); first | exact q.mp c5 | exact fun z => c5 (q.mpr z)
            refine lv_iload_n hx hb dX7_insertSorted_51 rfl (lv_at hl 3 rfl) ?_
            refine lv_aload_n hx hb dX7_insertSorted_52 rfl (lv_at hl 0 rfl) ?_
            refine g_f hw hf (by decide) (c_O E _) rfl inlX7 6 (by decide) rfl q34 rfl dX7_insertSorted_53 ?_
            refine g_n hw hf (by decide) (c_So E _) (t0 := 0) (v := 9) rfl rfl dX7_insertSorted_56 ?_
            refine lv_icmp_ge (tgt := 67) hx hb dX7_insertSorted_57 (by decide) (fun c6 => ?_) (fun c6 => ?_)
            · have c6n : 9 ≤ k := by have q := (nI_leI (a := 9) (b := k) (by omega) (by omega)); first | exact q.mp c6 | exact fun z => c6 (q.mpr z)
              exact e_v hf hr hlocks hw ((hq).trans ((if_neg c1).trans ((if_pos c4).trans ((if_neg c5).trans ((if_pos c6).trans rfl))))) dX7_insertSorted_67
            · have c6n : ¬ 9 ≤ k := by have q := (nI_leI (a := 9) (b := k) (by omega) (by omega)); first | exact q.mp c6 | exact fun z => c6 (q.mpr z)
              refine lv_aload_n hx hb dX7_insertSorted_60 rfl (lv_at hl 0 rfl) ?_
              refine g_f hw hf (by decide) (c_O E _) rfl inlX7 6 (by decide) rfl q34 rfl dX7_insertSorted_61 ?_
              refine lv_iload_n hx hb dX7_insertSorted_64 rfl (lv_at hl 3 rfl) ?_
              refine lv_iload_n hx hb dX7_insertSorted_65 rfl (lv_at hl 1 rfl) ?_
              refine p_a hw hf (by decide) (c_So E _) (vp_in_nI (show k < 9 from (by omega)) (by decide)) (by rw [show (nI k).toNatClampNeg = k from (nI_clamp (Nat.lt_trans (show k < 9 from (by omega)) (by decide)))]; exact (s_So E _ (by omega) _)) dX7_insertSorted_66 (fun H locs hw => ?_)
              exact e_v hf hr hlocks hw ((hq).trans ((if_neg c1).trans ((if_pos c4).trans ((if_neg c5).trans ((if_neg c6).trans rfl))))) dX7_insertSorted_67
        · have c4n : ¬ 9 ≤ k := by have q := (nI_leI (a := 9) (b := k) (by omega) (by omega)); first | exact q.mp c4 | exact fun z => c4 (q.mpr z)
          refine lv_aload_n hx hb dX7_insertSorted_15 rfl (lv_at hl 0 rfl) ?_
          refine g_f hw hf (by decide) (c_O E _) rfl inlX7 6 (by decide) rfl q34 rfl dX7_insertSorted_16 ?_
          refine lv_iload_n hx hb dX7_insertSorted_19 rfl (lv_at hl 3 rfl) ?_
          refine lv_iconst (v := 1) hx hb dX7_insertSorted_20 (by decide) ?_
          refine lv_isub hx hb dX7_insertSorted_21 ?_
          refine fold_i (show nI (k) - 1 = nI (k - 1) from pk_sub (a := k) (b := 1) (by omega)) ?_
          refine g_a hw hf (by decide) (c_So E _) (vp_in_nI (show k - 1 < 9 from (by omega)) (by decide)) (tr_at (y := k - 1) (by omega) (nI_clamp (Nat.lt_trans (show k - 1 < 9 from (by omega)) (by decide)))) dX7_insertSorted_22 ?_
          refine lv_iload_n hx hb dX7_insertSorted_23 rfl (lv_at hl 1 rfl) ?_
          refine lv_icmp_le (tgt := 47) hx hb dX7_insertSorted_24 (by decide) (fun c7 => ?_) (fun c7 => ?_)
          · refine lv_iload_n hx hb dX7_insertSorted_47 rfl (lv_at hl 3 rfl) ?_
            refine lv_if_lt (tgt := 67) hx hb dX7_insertSorted_48 (by decide) (fun c8 => ?_) (fun c8 => ?_)
            · have c8n : k < 0 := by have q := (nI_ltI (a := k) (b := 0) (by omega) (by omega)); first | exact q.mp c8 | exact fun z => c8 (q.mpr z)
              exact e_v hf hr hlocks hw ((hq).trans ((if_neg c1).trans ((if_neg c4).trans ((if_pos c7).trans ((if_pos c8).trans rfl))))) dX7_insertSorted_67
            · have c8n : ¬ k < 0 := by have q := (nI_ltI (a := k) (b := 0) (by omega) (by omega)); first | exact q.mp c8 | exact fun z => c8 (q.mpr z)
              refine lv_iload_n hx hb dX7_insertSorted_51 rfl (lv_at hl 3 rfl) ?_
              refine lv_aload_n hx hb dX7_insertSorted_52 rfl (lv_at hl 0 rfl) ?_
              refine g_f hw hf (by decide) (c_O E _) rfl inlX7 6 (by decide) rfl q34 rfl dX7_insertSorted_53 ?_
              refine g_n hw hf (by decide) (c_So E _) (t0 := 0) (v := 9) rfl rfl dX7_insertSorted_56 ?_
              refine lv_icmp_ge (tgt := 67) hx hb dX7_insertSorted_57 (by decide) (fun c9 => ?_) (fun c9 => ?_)
              · have c9n : 9 ≤ k := by have q := (nI_leI (a := 9) (b := k) (by omega) (by omega)); first | exact q.mp c9 | exact fun z => c9 (q.mpr z)
                exact e_v hf hr hlocks hw ((hq).trans ((if_neg c1).trans ((if_neg c4).trans ((if_pos c7).trans ((if_neg c8).trans ((if_pos c9).trans rfl)))))) dX7_insertSorted_67
              · have c9n : ¬ 9 ≤ k := by have q := (nI_leI (a := 9) (b := k) (by omega) (by omega)); first | exact q.mp c9 | exact fun z => c9 (q.mpr z)
                refine lv_aload_n hx hb dX7_insertSorted_60 rfl (lv_at hl 0 rfl) ?_
                refine g_f hw hf (by decide) (c_O E _) rfl inlX7 6 (by decide) rfl q34 rfl dX7_insertSorted_61 ?_
                refine lv_iload_n hx hb dX7_insertSorted_64 rfl (lv_at hl 3 rfl) ?_
                refine lv_iload_n hx hb dX7_insertSorted_65 rfl (lv_at hl 1 rfl) ?_
                refine p_a hw hf (by decide) (c_So E _) (vp_in_nI (show k < 9 from (by omega)) (by decide)) (by rw [show (nI k).toNatClampNeg = k from (nI_clamp (Nat.lt_trans (show k < 9 from (by omega)) (by decide)))]; exact (s_So E _ (by omega) _)) dX7_insertSorted_66 (fun H locs hw => ?_)
                exact e_v hf hr hlocks hw ((hq).trans ((if_neg c1).trans ((if_neg c4).trans ((if_pos c7).trans ((if_neg c8).trans ((if_neg c9).trans rfl)))))) dX7_insertSorted_67
          · refine lv_aload_n hx hb dX7_insertSorted_27 rfl (lv_at hl 0 rfl) ?_
            refine g_f hw hf (by decide) (c_O E _) rfl inlX7 6 (by decide) rfl q34 rfl dX7_insertSorted_28 ?_
            refine lv_iload_n hx hb dX7_insertSorted_31 rfl (lv_at hl 3 rfl) ?_
            refine lv_aload_n hx hb dX7_insertSorted_32 rfl (lv_at hl 0 rfl) ?_
            refine g_f hw hf (by decide) (c_O E _) rfl inlX7 6 (by decide) rfl q34 rfl dX7_insertSorted_33 ?_
            refine lv_iload_n hx hb dX7_insertSorted_36 rfl (lv_at hl 3 rfl) ?_
            refine lv_iconst (v := 1) hx hb dX7_insertSorted_37 (by decide) ?_
            refine lv_isub hx hb dX7_insertSorted_38 ?_
            refine fold_i (show nI (k) - 1 = nI (k - 1) from pk_sub (a := k) (b := 1) (by omega)) ?_
            refine g_a hw hf (by decide) (c_So E _) (vp_in_nI (show k - 1 < 9 from (by omega)) (by decide)) (tr_at (y := k - 1) (by omega) (nI_clamp (Nat.lt_trans (show k - 1 < 9 from (by omega)) (by decide)))) dX7_insertSorted_39 ?_
            refine p_a hw hf (by decide) (c_So E _) (vp_in_nI (show k < 9 from (by omega)) (by decide)) (by rw [show (nI k).toNatClampNeg = k from (nI_clamp (Nat.lt_trans (show k < 9 from (by omega)) (by decide)))]; exact (s_So E _ (by omega) _)) dX7_insertSorted_40 (fun H locs hw => ?_)
            refine lv_iinc (v := nI (k - 1)) (lv' := [(3, .int (nI (k - 1))), (0, .ref (E.1 (231))), (1, .int (v)), (2, .int (nI k0))]) hx hb dX7_insertSorted_41 hl (k := 3) rfl (sb_m1 (by omega)) (by decide) rfl (fun ls hl => ?_)
            refine lv_goto (tgt := 2) hx hb dX7_insertSorted_44 (by decide) ?_
            exact ih (k - 1) (pM μ1 6 (68 + k) ((μ1).1 6 (68 + (k - 1)))) (by omega) (by omega) (((hq).trans ((if_neg c1).trans ((if_neg c4).trans ((if_neg c7).trans rfl))))) _ _ _ (lv_sub hl [1, 2, 3, 0] rfl) hw
  exact key_2 (k0 + 1) k0 μ (by omega) (by omega) (rfl) _ _ _ (lv_sub hl [1, 2, 3, 0] rfl) hw
def lp_X7_median_43 (μ : Mu)  (a : Int32) (t2 : Nat) : Nat → Nat → Mu → Int32 × Mu
  | 0, _, μ1 => (0, μ1)
  | f + 1, k, μ1 =>
    if (mnI (sp_X4_setting (μ.1 0)  (6 : Int32)) (sp_X3_keptReadings (μ.1 0) t2 ) : Int32) ≤ nI k then
      if (((mnI (sp_X4_setting (μ.1 0)  (6 : Int32)) (sp_X3_keptReadings (μ.1 0) t2 )) - 1) / 2 : Int32) < 0 then
        ((-2000000004), μ1)
      else
        if (9 : Int32) ≤ ((mnI (sp_X4_setting (μ.1 0)  (6 : Int32)) (sp_X3_keptReadings (μ.1 0) t2 )) - 1) / 2 then
          ((-2000000004), μ1)
        else
          ((μ1).1 6 (68 + ((((mnI (sp_X4_setting (μ.1 0)  (6 : Int32)) (sp_X3_keptReadings (μ.1 0) t2 )) - 1) / 2).toNatClampNeg)), μ1)
    else
      if (9 : Int32) ≤ nI k then
        if (((mnI (sp_X4_setting (μ.1 0)  (6 : Int32)) (sp_X3_keptReadings (μ.1 0) t2 )) - 1) / 2 : Int32) < 0 then
          ((-2000000004), μ1)
        else
          if (9 : Int32) ≤ ((mnI (sp_X4_setting (μ.1 0)  (6 : Int32)) (sp_X3_keptReadings (μ.1 0) t2 )) - 1) / 2 then
            ((-2000000004), μ1)
          else
            ((μ1).1 6 (68 + ((((mnI (sp_X4_setting (μ.1 0)  (6 : Int32)) (sp_X3_keptReadings (μ.1 0) t2 )) - 1) / 2).toNatClampNeg)), μ1)
      else
        lp_X7_median_43 μ a t2 f (k + 1) (sp_X7_insertSorted μ1  (sp_X3_reading ((μ1).1 0) t2 (nI k)) k)
def sp_X7_median (μ : Mu)  (a : Int32) : Int32 × Mu :=
  oc (sp_X4_sensorAt (μ.1 0)  a) (
    ((-2000000001), μ)) (fun t2 =>
    if (mnI (sp_X4_setting (μ.1 0)  (6 : Int32)) (sp_X3_keptReadings (μ.1 0) t2 ) : Int32) = 0 then
      ((-2000000004), μ)
    else
      lp_X7_median_43 μ a t2 10 0 μ)
set_option maxHeartbeats 4000000 in
set_option maxRecDepth 100000 in
theorem k_X7_median (l : Launch) (E : En) (μ : Mu)  (a : Int32)  : MtI l yX7_median cX7_median 5 .int ({ frames := 2, cells := 0, slots := 0, locals := 33 }) [.ref (E.1 (231)), .int (a)] E μ (sp_X7_median μ a) := by
  refine mt_of (by decide +kernel) (Nat.le_of_ble_eq_true rfl) ?_
  intro p e s m args below meth c ls hf hr hlocks hl hw
  have hx := hf.1
  have hb := hf.2.1
  have hl : lv_has ls 5 [(0, .ref (E.1 (231))), (1, .int (a))] := hl
  refine lv_aload_n hx hb dX7_median_0 rfl (lv_at hl 0 rfl) ?_
  refine g_f hw hf (by decide) (c_O E _) rfl inlX7 0 (by decide) rfl q15 rfl dX7_median_1 ?_
  refine lv_iload_n hx hb dX7_median_4 rfl (lv_at hl 1 rfl) ?_
  refine c_q hw (run_V (As := [.int (a)]) (rest := []) (np := 1) hf hw (k_X4_sensorAt l E _ (by decide) a  ) ⟨gl_V q305 q306 q307 q14 q308, by decide +kernel⟩ ⟨rfl, rfl, Nat.le_of_ble_eq_true rfl, Nat.le_of_ble_eq_true rfl⟩ (lt_iS (by decide)) (c_iS E _ (by decide)) rfl rfl hl.1 rfl (Nat.le_of_ble_eq_true rfl) dX7_median_5 ⟨Nat.zero_le _, Nat.zero_le _⟩) (fun H locs hw => ?_)
  rcases o1 : sp_X4_sensorAt (μ.1 0)  a with _ | t2
  · refine W.eq (g2 := F0 m 8 ls [.null]) rfl ?_
    refine lv_astore_nN (lv' := [(2, .null), (0, .ref (E.1 (231))), (1, .int (a))]) hx hb dX7_median_8 rfl hl (by decide) rfl (fun ls hl => ?_)
    refine lv_aload_nN hx hb dX7_median_9 rfl (lv_at hl 0 rfl) ?_
    refine lv_ifnonnullN hx hb dX7_median_10 ?_
    refine lv_ldc hx hb hf.2.2.2.1 (hf.2.2.2.2 _ q161) dX7_median_13 ?_
    exact e_i hf hr hlocks hw rfl ((oc_none o1).trans rfl) dX7_median_15
  · have ht3 : t2 < 6 := (b_X4_sensorAt o1)
    refine W.eq (g2 := F0 m 8 ls [.ref (E.1 (iN 0 t2))]) rfl ?_
    refine lv_astore_n (lv' := [(2, .ref (E.1 (iN 0 t2))), (0, .ref (E.1 (231))), (1, .int (a))]) hx hb dX7_median_8 rfl hl (by decide) rfl (fun ls hl => ?_)
    refine lv_aload_n hx hb dX7_median_9 rfl (lv_at hl 0 rfl) ?_
    refine lv_ifnonnull (tgt := 16) hx hb dX7_median_10 (by decide) ?_
    refine lv_aload_n hx hb dX7_median_16 rfl (lv_at hl 1 rfl) ?_
    refine g_f hw hf (by decide) (c_O E _) rfl inlX7 0 (by decide) rfl q15 rfl dX7_median_17 ?_
    refine lv_bipush (v := 6) hx hb dX7_median_20 (by decide) ?_
    refine c_iR hw (run_V (As := [.int 6]) (rest := []) (np := 1) hf hw (k_X4_setting l E _ (by decide) (6 : Int32)  ) ⟨gl_V q718 q530 q531 q14 q532, by decide +kernel⟩ ⟨rfl, rfl, Nat.le_of_ble_eq_true rfl, Nat.le_of_ble_eq_true rfl⟩ (lt_iS (by decide)) (c_iS E _ (by decide)) rfl rfl hl.1 rfl (Nat.le_of_ble_eq_true rfl) dX7_median_22 ⟨Nat.zero_le _, Nat.zero_le _⟩) (fun H locs hw => ?_)
    refine lv_aload_n hx hb dX7_median_25 rfl (lv_at hl 0 rfl) ?_
    refine c_iR hw (run_V (As := []) (rest := [.int (sp_X4_setting (μ.1 0)  (6 : Int32))]) (np := 0) hf hw (k_X3_keptReadings l E _ (by decide) ht3   ) ⟨gl_V q814 q815 q816 q48 q817, by decide +kernel⟩ ⟨rfl, rfl, Nat.le_of_ble_eq_true rfl, Nat.le_of_ble_eq_true rfl⟩ (lt_iN (by decide) ht3) (c_iN E _ (by decide) ht3) rfl rfl hl.1 rfl (Nat.le_of_ble_eq_true rfl) dX7_median_26 ⟨Nat.zero_le _, Nat.zero_le _⟩) (fun H locs hw => ?_)
    refine va_mmin hx hb (hf.2.2.1.trans hl.1.symm) hf.2.2.2.1 (hf.2.2.2.2 _ q831) (hf.2.2.2.2 _ q318) (hf.2.2.2.2 _ q315) (hf.2.2.2.2 _ q319) (Nat.le_of_ble_eq_true rfl) (Nat.le_of_ble_eq_true rfl) (Nat.zero_le _) (Nat.zero_le _) dX7_median_29 ?_
    refine lv_istore_n (lv' := [(3, .int (mnI (sp_X4_setting (μ.1 0)  (6 : Int32)) (sp_X3_keptReadings (μ.1 0) t2 ))), (2, .ref (E.1 (iN 0 t2))), (0, .ref (E.1 (231))), (1, .int (a))]) hx hb dX7_median_32 rfl hl (by decide) rfl (fun ls hl => ?_)
    refine lv_iload_n hx hb dX7_median_33 rfl (lv_at hl 0 rfl) ?_
    refine lv_if_ne (tgt := 40) hx hb dX7_median_34 (by decide) (fun c4 => ?_) (fun c4 => ?_)
    · refine lv_iconst (v := 0) hx hb dX7_median_40 (by decide) ?_
      refine lv_istore (lv' := [(4, .int 0), (3, .int (mnI (sp_X4_setting (μ.1 0)  (6 : Int32)) (sp_X3_keptReadings (μ.1 0) t2 ))), (2, .ref (E.1 (iN 0 t2))), (0, .ref (E.1 (231))), (1, .int (a))]) hx hb dX7_median_41 hl (by decide) rfl (fun ls hl => ?_)
      have key_43 : ∀ (f : Nat) (k : Nat) (μ1 : Mu), k + f = 10 → k ≤ 9 → sp_X7_median μ a = lp_X7_median_43 μ a t2 f k μ1 → ∀ (ls : Array Slot) (H : Heap) (locs : List Loc), lv_has ls 5 [(0, .ref (E.1 (231))), (1, .int (a)), (2, .ref (E.1 (iN 0 t2))), (3, .int (mnI (sp_X4_setting (μ.1 0)  (6 : Int32)) (sp_X3_keptReadings (μ.1 0) t2 ))), (4, .int (nI k))] → Wk E μ1 s H locs → W p l e ({ frames := 2, cells := 0, slots := 0, locals := 33 }) s m args below meth c H locs 0 0 (MQ below (va_Qi (fun r u => r = ((sp_X7_median μ a)).1 ∧ u = ((sp_X7_median μ a)).2) (fun u t => WdU E u t) (inE E)) args s 0 0 (inE E)) (F0 m 43 ls []) := by
        intro f
        induction f with
        | zero => intro k μ1 h1 h2 hq ls H locs hl hw; exfalso; omega
        | succ f ih =>
          intro k μ1 h1 h2 hq ls H locs hl hw
          refine lv_iload hx hb dX7_median_43 (lv_at hl 4 rfl) ?_
          refine lv_iload_n hx hb dX7_median_45 rfl (lv_at hl 3 rfl) ?_
          refine lv_icmp_ge (tgt := 77) hx hb dX7_median_46 (by decide) (fun c5 => ?_) (fun c5 => ?_)
          · refine lv_iload_n hx hb dX7_median_77 rfl (lv_at hl 3 rfl) ?_
            refine lv_iconst (v := 1) hx hb dX7_median_78 (by decide) ?_
            refine lv_isub hx hb dX7_median_79 ?_
            refine lv_iconst (v := 2) hx hb dX7_median_80 (by decide) ?_
            refine lv_idiv hx hb dX7_median_81 (by decide) ?_
            refine lv_istore (lv' := [(4, .int (((mnI (sp_X4_setting (μ.1 0)  (6 : Int32)) (sp_X3_keptReadings (μ.1 0) t2 )) - 1) / 2)), (0, .ref (E.1 (231))), (1, .int (a)), (2, .ref (E.1 (iN 0 t2))), (3, .int (mnI (sp_X4_setting (μ.1 0)  (6 : Int32)) (sp_X3_keptReadings (μ.1 0) t2 )))]) hx hb dX7_median_82 hl (by decide) rfl (fun ls hl => ?_)
            refine lv_iload hx hb dX7_median_84 (lv_at hl 0 rfl) ?_
            refine lv_if_lt (tgt := 109) hx hb dX7_median_86 (by decide) (fun c6 => ?_) (fun c6 => ?_)
            · refine lv_ldc hx hb hf.2.2.2.1 (hf.2.2.2.2 _ q235) dX7_median_109 ?_
              exact e_i hf hr hlocks hw rfl ((hq).trans ((if_pos c5).trans ((if_pos c6).trans rfl))) dX7_median_111
            · refine lv_iload hx hb dX7_median_89 (lv_at hl 0 rfl) ?_
              refine lv_aload_n hx hb dX7_median_91 rfl (lv_at hl 1 rfl) ?_
              refine g_f hw hf (by decide) (c_O E _) rfl inlX7 6 (by decide) rfl q34 rfl dX7_median_92 ?_
              refine g_n hw hf (by decide) (c_So E _) (t0 := 0) (v := 9) rfl rfl dX7_median_95 ?_
              refine lv_icmp_ge (tgt := 109) hx hb dX7_median_96 (by decide) (fun c7 => ?_) (fun c7 => ?_)
              · refine lv_ldc hx hb hf.2.2.2.1 (hf.2.2.2.2 _ q235) dX7_median_109 ?_
                exact e_i hf hr hlocks hw rfl ((hq).trans ((if_pos c5).trans ((if_neg c6).trans ((if_pos c7).trans rfl)))) dX7_median_111
              · refine lv_aload_n hx hb dX7_median_99 rfl (lv_at hl 1 rfl) ?_
                refine g_f hw hf (by decide) (c_O E _) rfl inlX7 6 (by decide) rfl q34 rfl dX7_median_100 ?_
                refine lv_iload hx hb dX7_median_103 (lv_at hl 0 rfl) ?_
                refine g_a hw hf (by decide) (c_So E _) (vin 9 9 (by decide) (by decide) rfl c6 c7) (tr_at (y := (((mnI (sp_X4_setting (μ.1 0)  (6 : Int32)) (sp_X3_keptReadings (μ.1 0) t2 )) - 1) / 2).toNatClampNeg) (vin_lt (vin 9 9 (by decide) (by decide) rfl c6 c7)) rfl) dX7_median_105 ?_
                refine lv_goto (tgt := 111) hx hb dX7_median_106 (by decide) ?_
                exact e_i hf hr hlocks hw rfl ((hq).trans ((if_pos c5).trans ((if_neg c6).trans ((if_neg c7).trans rfl)))) dX7_median_111
          · refine lv_iload hx hb dX7_median_49 (lv_at hl 4 rfl) ?_
            refine lv_aload_n hx hb dX7_median_51 rfl (lv_at hl 0 rfl) ?_
            refine g_f hw hf (by decide) (c_O E _) rfl inlX7 6 (by decide) rfl q34 rfl dX7_median_52 ?_
            refine g_n hw hf (by decide) (c_So E _) (t0 := 0) (v := 9) rfl rfl dX7_median_55 ?_
            refine lv_icmp_ge (tgt := 77) hx hb dX7_median_56 (by decide) (fun c8 => ?_) (fun c8 => ?_)
            · have c8n : 9 ≤ k := by have q := (nI_leI (a := 9) (b := k) (by omega) (by omega)); first | exact q.mp c8 | exact fun z => c8 (q.mpr z)
              refine lv_iload_n hx hb dX7_median_77 rfl (lv_at hl 3 rfl) ?_
              refine lv_iconst (v := 1) hx hb dX7_median_78 (by decide) ?_
              refine lv_isub hx hb dX7_median_79 ?_
              refine lv_iconst (v := 2) hx hb dX7_median_80 (by decide) ?_
              refine lv_idiv hx hb dX7_median_81 (by decide) ?_
              refine lv_istore (lv' := [(4, .int (((mnI (sp_X4_setting (μ.1 0)  (6 : Int32)) (sp_X3_keptReadings (μ.1 0) t2 )) - 1) / 2)), (0, .ref (E.1 (231))), (1, .int (a)), (2, .ref (E.1 (iN 0 t2))), (3, .int (mnI (sp_X4_setting (μ.1 0)  (6 : Int32)) (sp_X3_keptReadings (μ.1 0) t2 )))]) hx hb dX7_median_82 hl (by decide) rfl (fun ls hl => ?_)
              refine lv_iload hx hb dX7_median_84 (lv_at hl 0 rfl) ?_
              refine lv_if_lt (tgt := 109) hx hb dX7_median_86 (by decide) (fun c9 => ?_) (fun c9 => ?_)
              · refine lv_ldc hx hb hf.2.2.2.1 (hf.2.2.2.2 _ q235) dX7_median_109 ?_
                exact e_i hf hr hlocks hw rfl ((hq).trans ((if_neg c5).trans ((if_pos c8).trans ((if_pos c9).trans rfl)))) dX7_median_111
              · refine lv_iload hx hb dX7_median_89 (lv_at hl 0 rfl) ?_
                refine lv_aload_n hx hb dX7_median_91 rfl (lv_at hl 1 rfl) ?_
                refine g_f hw hf (by decide) (c_O E _) rfl inlX7 6 (by decide) rfl q34 rfl dX7_median_92 ?_
                refine g_n hw hf (by decide) (c_So E _) (t0 := 0) (v := 9) rfl rfl dX7_median_95 ?_
                refine lv_icmp_ge (tgt := 109) hx hb dX7_median_96 (by decide) (fun c10 => ?_) (fun c10 => ?_)
                · refine lv_ldc hx hb hf.2.2.2.1 (hf.2.2.2.2 _ q235) dX7_median_109 ?_
                  exact e_i hf hr hlocks hw rfl ((hq).trans ((if_neg c5).trans ((if_pos c8).trans ((if_neg c9).trans ((if_pos c10).trans rfl))))) dX7_median_111
                · refine lv_aload_n hx hb dX7_median_99 rfl (lv_at hl 1 rfl) ?_
                  refine g_f hw hf (by decide) (c_O E _) rfl inlX7 6 (by decide) rfl q34 rfl dX7_median_100 ?_
                  refine lv_iload hx hb dX7_median_103 (lv_at hl 0 rfl) ?_
                  refine g_a hw hf (by decide) (c_So E _) (vin 9 9 (by decide) (by decide) rfl c9 c10) (tr_at (y := (((mnI (sp_X4_setting (μ.1 0)  (6 : Int32)) (sp_X3_keptReadings (μ.1 0) t2 )) - 1) / 2).toNatClampNeg) (vin_lt (vin 9 9 (by decide) (by decide) rfl c9 c10)) rfl) dX7_median_105 ?_
                  refine lv_goto (tgt := 111) hx hb dX7_median_106 (by decide) ?_
                  exact e_i hf hr hlocks hw rfl ((hq).trans ((if_neg c5).trans ((if_pos c8).trans ((if_neg c9).trans ((if_neg c10).trans rfl))))) dX7_median_111
            · have c8n : ¬ 9 ≤ k := by have q := (nI_leI (a := 9) (b := k) (by omega) (by omega)); first | exact q.mp c8 | exact fun z => c8 (q.mpr z)
              refine lv_aload_n hx hb dX7_median_59 rfl (lv_at hl 0 rfl) ?_
              refine lv_aload_n hx hb dX7_median_60 rfl (lv_at hl 2 rfl) ?_
              refine lv_iload hx hb dX7_median_61 (lv_at hl 4 rfl) ?_
              refine c_iR hw (run_V (As := [.int (nI k)]) (rest := [.ref (E.1 (231))]) (np := 1) hf hw (k_X3_reading l E _ (by decide) ht3 (nI k)  ) ⟨gl_V q819 q820 q821 q48 q822, by decide +kernel⟩ ⟨rfl, rfl, Nat.le_of_ble_eq_true rfl, Nat.le_of_ble_eq_true rfl⟩ (lt_iN (by decide) ht3) (c_iN E _ (by decide) ht3) rfl rfl hl.1 rfl (Nat.le_of_ble_eq_true rfl) dX7_median_63 ⟨Nat.zero_le _, Nat.zero_le _⟩) (fun H locs hw => ?_)
              refine lv_iload hx hb dX7_median_66 (lv_at hl 4 rfl) ?_
              refine c_v hw (run_V (As := [.int (sp_X3_reading ((μ1).1 0) t2 (nI k)), .int (nI k)]) (rest := []) (np := 2) hf hw (k_X7_insertSorted l E _  (sp_X3_reading ((μ1).1 0) t2 (nI k)) k  (by omega)) ⟨gl_V q832 q833 q834 q2 q835, by decide +kernel⟩ ⟨rfl, rfl, Nat.le_of_ble_eq_true rfl, Nat.le_of_ble_eq_true rfl⟩ (by decide) (c_O E _) rfl rfl hl.1 rfl (Nat.le_of_ble_eq_true rfl) dX7_median_68 ⟨Nat.zero_le _, Nat.zero_le _⟩) (fun H locs hw => ?_)
              refine lv_iinc (v := nI (k + 1)) (lv' := [(4, .int (nI (k + 1))), (0, .ref (E.1 (231))), (1, .int (a)), (2, .ref (E.1 (iN 0 t2))), (3, .int (mnI (sp_X4_setting (μ.1 0)  (6 : Int32)) (sp_X3_keptReadings (μ.1 0) t2 )))]) hx hb dX7_median_71 hl (k := 4) rfl (nI_1 _) (by decide) rfl (fun ls hl => ?_)
              refine lv_goto (tgt := 43) hx hb dX7_median_74 (by decide) ?_
              exact ih (k + 1) (sp_X7_insertSorted μ1  (sp_X3_reading ((μ1).1 0) t2 (nI k)) k) (by omega) (by omega) (((hq).trans ((if_neg c5).trans ((if_neg c8).trans rfl)))) _ _ _ (lv_sub hl [1, 2, 3, 4, 0] rfl) hw
      exact key_43 10 0 μ (by omega) (by omega) (((oc_some o1).trans ((if_neg c4).trans rfl))) _ _ _ (lv_sub hl [3, 4, 2, 1, 0] rfl) hw
    · refine lv_ldc hx hb hf.2.2.2.1 (hf.2.2.2.2 _ q235) dX7_median_37 ?_
      exact e_i hf hr hlocks hw rfl ((oc_some o1).trans ((if_pos c4).trans rfl)) dX7_median_39
