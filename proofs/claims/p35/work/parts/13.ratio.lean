/-! ===== Table: ratios and their inverse ===== -/
def lp_X5_ratioAt_2 (g : Nat → Int32) (t : Nat) (w : Int32) : Nat → Nat → Int32
  | 0, _ => 0
  | f + 1, k =>
    if (g (tN t) : Int32) ≤ nI k then
      0
    else
      if (12 : Int32) ≤ nI k then
        0
      else
        if (g (tD t k) : Int32) < w then
          lp_X5_ratioAt_2 g t w f (k + 1)
        else
          if (((g (tD t k)).toInt64) - ((g (tD t ((k - 1)))).toInt64) : Int64) ≤ 0 then
            lp_X5_ratioAt_2 g t w f (k + 1)
          else
            (((g (tR t ((k - 1)))).toInt64) + (((((g (tR t k)).toInt64) - ((g (tR t ((k - 1)))).toInt64)) * ((w.toInt64) - ((g (tD t ((k - 1)))).toInt64))) / (((g (tD t k)).toInt64) - ((g (tD t ((k - 1)))).toInt64)))).toInt32
def sp_X5_ratioAt (g : Nat → Int32) (t : Nat) (w : Int32) : Int32 :=
  lp_X5_ratioAt_2 g t w 12 1
set_option maxHeartbeats 4000000 in
set_option maxRecDepth 100000 in
theorem k_X5_ratioAt (l : Launch) (E : En) (μ : Mu) {j : Nat} (hj : j < 6) {t : Nat} (ht : t < 3) (w : Int32)  : MtI l yX5_ratioAt cX5_ratioAt 9 .int ({ frames := 0, cells := 0, slots := 0, locals := 0 }) [.ref (E.1 (iT j t)), .int (w)] E μ ((sp_X5_ratioAt (μ.1 j) t w), μ) := by
  refine mt_of (by decide +kernel) (Nat.le_of_ble_eq_true rfl) ?_
  intro p e s m args below meth c ls hf hr hlocks hl hw
  have hx := hf.1
  have hb := hf.2.1
  have hl : lv_has ls 9 [(0, .ref (E.1 (iT j t))), (1, .int (w))] := hl
  refine lv_iconst (v := 1) hx hb dX5_ratioAt_0 (by decide) ?_
  refine lv_istore_n (lv' := [(2, .int 1), (0, .ref (E.1 (iT j t))), (1, .int (w))]) hx hb dX5_ratioAt_1 rfl hl (by decide) rfl (fun ls hl => ?_)
  have key_2 : ∀ (f : Nat) (k : Nat), k + f = 13 → 1 ≤ k ∧ k ≤ 12 → sp_X5_ratioAt (μ.1 j) t w = lp_X5_ratioAt_2 (μ.1 j) t w f k → ∀ (ls : Array Slot) (H : Heap) (locs : List Loc), lv_has ls 9 [(0, .ref (E.1 (iT j t))), (1, .int (w)), (2, .int (nI k))] → Wk E μ s H locs → W p l e ({ frames := 0, cells := 0, slots := 0, locals := 0 }) s m args below meth c H locs 0 0 (MQ below (va_Qi (fun r u => r = ((sp_X5_ratioAt (μ.1 j) t w, μ)).1 ∧ u = ((sp_X5_ratioAt (μ.1 j) t w, μ)).2) (fun u t => WdU E u t) (inE E)) args s 0 0 (inE E)) (F0 m 2 ls []) := by
    intro f
    induction f with
    | zero => intro k h1 h2 hq ls H locs hl hw; exfalso; omega
    | succ f ih =>
      intro k h1 h2 hq ls H locs hl hw
      refine lv_iload_n hx hb dX5_ratioAt_2 rfl (lv_at hl 2 rfl) ?_
      refine lv_aload_n hx hb dX5_ratioAt_3 rfl (lv_at hl 0 rfl) ?_
      refine g_f hw hf (lt_iT hj ht) (c_iT E _ hj ht) rfl inlX5 0 (by decide) rfl q181 rfl dX5_ratioAt_4 ?_
      refine lv_icmp_ge (tgt := 108) hx hb dX5_ratioAt_7 (by decide) (fun c1 => ?_) (fun c1 => ?_)
      · refine lv_iconst (v := 0) hx hb dX5_ratioAt_108 (by decide) ?_
        exact e_i hf hr hlocks hw rfl (congrArg (fun z => (z, μ)) ((hq).trans ((if_pos c1).trans rfl))) dX5_ratioAt_109
      · refine lv_iload_n hx hb dX5_ratioAt_10 rfl (lv_at hl 2 rfl) ?_
        refine lv_bipush (v := 12) hx hb dX5_ratioAt_11 (by decide) ?_
        refine lv_icmp_ge (tgt := 108) hx hb dX5_ratioAt_13 (by decide) (fun c2 => ?_) (fun c2 => ?_)
        · have c2n : 12 ≤ k := by have q := (nI_leI (a := 12) (b := k) (by omega) (by omega)); first | exact q.mp c2 | exact fun z => c2 (q.mpr z)
          refine lv_iconst (v := 0) hx hb dX5_ratioAt_108 (by decide) ?_
          exact e_i hf hr hlocks hw rfl (congrArg (fun z => (z, μ)) ((hq).trans ((if_neg c1).trans ((if_pos c2).trans rfl)))) dX5_ratioAt_109
        · have c2n : ¬ 12 ≤ k := by have q := (nI_leI (a := 12) (b := k) (by omega) (by omega)); first | exact q.mp c2 | exact fun z => c2 (q.mpr z)
          refine lv_aload_n hx hb dX5_ratioAt_16 rfl (lv_at hl 0 rfl) ?_
          refine g_f hw hf (lt_iT hj ht) (c_iT E _ hj ht) rfl inlX5 1 (by decide) rfl q64 rfl dX5_ratioAt_17 ?_
          refine lv_iload_n hx hb dX5_ratioAt_20 rfl (lv_at hl 2 rfl) ?_
          refine g_a hw hf (lt_iTt hj ht) (c_iTt E _ hj ht) (vp_in_nI (show k < 12 from (by omega)) (by decide)) (tr_at (y := k) (by omega) (nI_clamp (Nat.lt_trans (show k < 12 from (by omega)) (by decide)))) dX5_ratioAt_21 ?_
          refine lv_i2l hx hb dX5_ratioAt_22 rfl ?_
          refine lv_aload_n hx hb dX5_ratioAt_23 rfl (lv_at hl 0 rfl) ?_
          refine g_f hw hf (lt_iT hj ht) (c_iT E _ hj ht) rfl inlX5 1 (by decide) rfl q64 rfl dX5_ratioAt_24 ?_
          refine lv_iload_n hx hb dX5_ratioAt_27 rfl (lv_at hl 2 rfl) ?_
          refine lv_iconst (v := 1) hx hb dX5_ratioAt_28 (by decide) ?_
          refine lv_isub hx hb dX5_ratioAt_29 ?_
          refine fold_i (show nI (k) - 1 = nI (k - 1) from pk_sub (a := k) (b := 1) (by omega)) ?_
          refine g_a hw hf (lt_iTt hj ht) (c_iTt E _ hj ht) (vp_in_nI (show k - 1 < 12 from (by omega)) (by decide)) (tr_at (y := k - 1) (by omega) (nI_clamp (Nat.lt_trans (show k - 1 < 12 from (by omega)) (by decide)))) dX5_ratioAt_30 ?_
          refine lv_i2l hx hb dX5_ratioAt_31 rfl ?_
          refine lv_lsub hx hb dX5_ratioAt_32 ?_
          refine lv_lstore_n (lv' := [(3, .long (((μ.1 j (tD t k)).toInt64) - ((μ.1 j (tD t ((k - 1)))).toInt64))), (0, .ref (E.1 (iT j t))), (1, .int (w)), (2, .int (nI k))]) hx hb dX5_ratioAt_33 rfl hl (by decide) rfl (fun ls hl => ?_)
          refine lv_aload_n hx hb dX5_ratioAt_34 rfl (lv_at hl 1 rfl) ?_
          refine g_f hw hf (lt_iT hj ht) (c_iT E _ hj ht) rfl inlX5 1 (by decide) rfl q64 rfl dX5_ratioAt_35 ?_
          refine lv_iload_n hx hb dX5_ratioAt_38 rfl (lv_at hl 3 rfl) ?_
          refine g_a hw hf (lt_iTt hj ht) (c_iTt E _ hj ht) (vp_in_nI (show k < 12 from (by omega)) (by decide)) (tr_at (y := k) (by omega) (nI_clamp (Nat.lt_trans (show k < 12 from (by omega)) (by decide)))) dX5_ratioAt_39 ?_
          refine lv_iload_n hx hb dX5_ratioAt_40 rfl (lv_at hl 2 rfl) ?_
          refine lv_icmp_lt (tgt := 102) hx hb dX5_ratioAt_41 (by decide) (fun c3 => ?_) (fun c3 => ?_)
          · refine lv_iinc (v := nI (k + 1)) (lv' := [(2, .int (nI (k + 1))), (3, .long (((μ.1 j (tD t k)).toInt64) - ((μ.1 j (tD t ((k - 1)))).toInt64))), (0, .ref (E.1 (iT j t))), (1, .int (w))]) hx hb dX5_ratioAt_102 hl (k := 3) rfl (nI_1 _) (by decide) rfl (fun ls hl => ?_)
            refine lv_goto (tgt := 2) hx hb dX5_ratioAt_105 (by decide) ?_
            exact ih (k + 1) (by omega) (by omega) (((hq).trans ((if_neg c1).trans ((if_neg c2).trans ((if_pos c3).trans rfl))))) _ _ _ (lv_sub hl [2, 3, 0] rfl) hw
          · refine lv_lload_n hx hb dX5_ratioAt_44 rfl (lv_at hl 0 rfl) ?_
            refine lv_lconst (v := 0) hx hb dX5_ratioAt_45 (by decide) ?_
            refine W.lcmp hx hb dX5_ratioAt_46 ?_
            refine lv_if_le (tgt := 102) hx hb dX5_ratioAt_47 (by decide) (fun c4 => ?_) (fun c4 => ?_)
            · replace c4 := (lg_cmp_le _ _).mp c4
              refine lv_iinc (v := nI (k + 1)) (lv' := [(2, .int (nI (k + 1))), (3, .long (((μ.1 j (tD t k)).toInt64) - ((μ.1 j (tD t ((k - 1)))).toInt64))), (0, .ref (E.1 (iT j t))), (1, .int (w))]) hx hb dX5_ratioAt_102 hl (k := 3) rfl (nI_1 _) (by decide) rfl (fun ls hl => ?_)
              refine lv_goto (tgt := 2) hx hb dX5_ratioAt_105 (by decide) ?_
              exact ih (k + 1) (by omega) (by omega) (((hq).trans ((if_neg c1).trans ((if_neg c2).trans ((if_neg c3).trans ((if_pos c4).trans rfl)))))) _ _ _ (lv_sub hl [2, 3, 0] rfl) hw
            · replace c4 := mt (lg_cmp_le _ _).mpr c4
              refine lv_iload_n hx hb dX5_ratioAt_50 rfl (lv_at hl 2 rfl) ?_
              refine lv_i2l hx hb dX5_ratioAt_51 rfl ?_
              refine lv_aload_n hx hb dX5_ratioAt_52 rfl (lv_at hl 1 rfl) ?_
              refine g_f hw hf (lt_iT hj ht) (c_iT E _ hj ht) rfl inlX5 1 (by decide) rfl q64 rfl dX5_ratioAt_53 ?_
              refine lv_iload_n hx hb dX5_ratioAt_56 rfl (lv_at hl 3 rfl) ?_
              refine lv_iconst (v := 1) hx hb dX5_ratioAt_57 (by decide) ?_
              refine lv_isub hx hb dX5_ratioAt_58 ?_
              refine fold_i (show nI (k) - 1 = nI (k - 1) from pk_sub (a := k) (b := 1) (by omega)) ?_
              refine g_a hw hf (lt_iTt hj ht) (c_iTt E _ hj ht) (vp_in_nI (show k - 1 < 12 from (by omega)) (by decide)) (tr_at (y := k - 1) (by omega) (nI_clamp (Nat.lt_trans (show k - 1 < 12 from (by omega)) (by decide)))) dX5_ratioAt_59 ?_
              refine lv_i2l hx hb dX5_ratioAt_60 rfl ?_
              refine lv_lsub hx hb dX5_ratioAt_61 ?_
              refine lv_lstore (lv' := [(5, .long ((w.toInt64) - ((μ.1 j (tD t ((k - 1)))).toInt64))), (3, .long (((μ.1 j (tD t k)).toInt64) - ((μ.1 j (tD t ((k - 1)))).toInt64))), (0, .ref (E.1 (iT j t))), (1, .int (w)), (2, .int (nI k))]) hx hb dX5_ratioAt_62 hl (by decide) rfl (fun ls hl => ?_)
              refine lv_aload_n hx hb dX5_ratioAt_64 rfl (lv_at hl 2 rfl) ?_
              refine g_f hw hf (lt_iT hj ht) (c_iT E _ hj ht) rfl inlX5 2 (by decide) rfl q65 rfl dX5_ratioAt_65 ?_
              refine lv_iload_n hx hb dX5_ratioAt_68 rfl (lv_at hl 4 rfl) ?_
              refine g_a hw hf (lt_iTr hj ht) (c_iTr E _ hj ht) (vp_in_nI (show k < 12 from (by omega)) (by decide)) (tr_at (y := k) (by omega) (nI_clamp (Nat.lt_trans (show k < 12 from (by omega)) (by decide)))) dX5_ratioAt_69 ?_
              refine lv_i2l hx hb dX5_ratioAt_70 rfl ?_
              refine lv_aload_n hx hb dX5_ratioAt_71 rfl (lv_at hl 2 rfl) ?_
              refine g_f hw hf (lt_iT hj ht) (c_iT E _ hj ht) rfl inlX5 2 (by decide) rfl q65 rfl dX5_ratioAt_72 ?_
              refine lv_iload_n hx hb dX5_ratioAt_75 rfl (lv_at hl 4 rfl) ?_
              refine lv_iconst (v := 1) hx hb dX5_ratioAt_76 (by decide) ?_
              refine lv_isub hx hb dX5_ratioAt_77 ?_
              refine fold_i (show nI (k) - 1 = nI (k - 1) from pk_sub (a := k) (b := 1) (by omega)) ?_
              refine g_a hw hf (lt_iTr hj ht) (c_iTr E _ hj ht) (vp_in_nI (show k - 1 < 12 from (by omega)) (by decide)) (tr_at (y := k - 1) (by omega) (nI_clamp (Nat.lt_trans (show k - 1 < 12 from (by omega)) (by decide)))) dX5_ratioAt_78 ?_
              refine lv_i2l hx hb dX5_ratioAt_79 rfl ?_
              refine lv_lsub hx hb dX5_ratioAt_80 ?_
              refine lv_lstore (lv' := [(7, .long (((μ.1 j (tR t k)).toInt64) - ((μ.1 j (tR t ((k - 1)))).toInt64))), (5, .long ((w.toInt64) - ((μ.1 j (tD t ((k - 1)))).toInt64))), (3, .long (((μ.1 j (tD t k)).toInt64) - ((μ.1 j (tD t ((k - 1)))).toInt64))), (0, .ref (E.1 (iT j t))), (1, .int (w)), (2, .int (nI k))]) hx hb dX5_ratioAt_81 hl (by decide) rfl (fun ls hl => ?_)
              refine lv_aload_n hx hb dX5_ratioAt_83 rfl (lv_at hl 3 rfl) ?_
              refine g_f hw hf (lt_iT hj ht) (c_iT E _ hj ht) rfl inlX5 2 (by decide) rfl q65 rfl dX5_ratioAt_84 ?_
              refine lv_iload_n hx hb dX5_ratioAt_87 rfl (lv_at hl 5 rfl) ?_
              refine lv_iconst (v := 1) hx hb dX5_ratioAt_88 (by decide) ?_
              refine lv_isub hx hb dX5_ratioAt_89 ?_
              refine fold_i (show nI (k) - 1 = nI (k - 1) from pk_sub (a := k) (b := 1) (by omega)) ?_
              refine g_a hw hf (lt_iTr hj ht) (c_iTr E _ hj ht) (vp_in_nI (show k - 1 < 12 from (by omega)) (by decide)) (tr_at (y := k - 1) (by omega) (nI_clamp (Nat.lt_trans (show k - 1 < 12 from (by omega)) (by decide)))) dX5_ratioAt_90 ?_
              refine lv_i2l hx hb dX5_ratioAt_91 rfl ?_
              refine lv_lload hx hb dX5_ratioAt_92 (lv_at hl 0 rfl) ?_
              refine lv_lload hx hb dX5_ratioAt_94 (lv_at hl 1 rfl) ?_
              refine lv_lmul hx hb dX5_ratioAt_96 ?_
              refine lv_lload_n hx hb dX5_ratioAt_97 rfl (lv_at hl 2 rfl) ?_
              refine lv_ldiv hx hb dX5_ratioAt_98 (nz_of_posL c4) ?_
              refine lv_ladd hx hb dX5_ratioAt_99 ?_
              refine lv_l2i hx hb dX5_ratioAt_100 rfl ?_
              exact e_i hf hr hlocks hw rfl (congrArg (fun z => (z, μ)) ((hq).trans ((if_neg c1).trans ((if_neg c2).trans ((if_neg c3).trans ((if_neg c4).trans rfl)))))) dX5_ratioAt_101
  exact key_2 12 1 (by omega) (by omega) (rfl) _ _ _ (lv_sub hl [1, 2, 0] rfl) hw
def lp_X5_temperatureFor_59 (g : Nat → Int32) (t : Nat) (w : Int64) : Nat → Int32 → Int32 → Nat → Int32
  | 0, _, _, _ => 0
  | f + 1, x, y, k =>
    if (32 : Int32) ≤ nI k then
      y
    else
      if (y : Int32) ≤ x then
        y
      else
        if ((sp_X5_ratioAt g t (x + ((y - x) / 2))).toInt64 : Int64) < w then
          lp_X5_temperatureFor_59 g t w f ((x + ((y - x) / 2)) + 1) y (k + 1)
        else
          lp_X5_temperatureFor_59 g t w f x (x + ((y - x) / 2)) (k + 1)
def sp_X5_temperatureFor (g : Nat → Int32) (t : Nat) (w : Int64) : Int32 :=
  if (g (tN t) : Int32) < 2 then
    (-2000000004)
  else
    if (w : Int64) < (sp_X5_ratioOf g t (0 : Int32)).toInt64 then
      (-2000000004)
    else
      if (w : Int64) ≤ (sp_X5_ratioOf g t ((g (tN t)) - 1)).toInt64 then
        lp_X5_temperatureFor_59 g t w 33 (sp_X5_temperatureOf g t (0 : Int32)) (sp_X5_temperatureOf g t ((g (tN t)) - 1)) 0
      else
        (-2000000004)
set_option maxHeartbeats 4000000 in
set_option maxRecDepth 100000 in
theorem k_X5_temperatureFor (l : Launch) (E : En) (μ : Mu) {j : Nat} (hj : j < 6) {t : Nat} (ht : t < 3) (w : Int64)  : MtI l yX5_temperatureFor cX5_temperatureFor 7 .int ({ frames := 1, cells := 0, slots := 0, locals := 28 }) [.ref (E.1 (iT j t)), .long (w)] E μ ((sp_X5_temperatureFor (μ.1 j) t w), μ) := by
  refine mt_of (by decide +kernel) (Nat.le_of_ble_eq_true rfl) ?_
  intro p e s m args below meth c ls hf hr hlocks hl hw
  have hx := hf.1
  have hb := hf.2.1
  have hl : lv_has ls 7 [(0, .ref (E.1 (iT j t))), (1, .long (w))] := hl
  refine lv_aload_n hx hb dX5_temperatureFor_0 rfl (lv_at hl 0 rfl) ?_
  refine g_f hw hf (lt_iT hj ht) (c_iT E _ hj ht) rfl inlX5 0 (by decide) rfl q181 rfl dX5_temperatureFor_1 ?_
  refine lv_iconst (v := 2) hx hb dX5_temperatureFor_4 (by decide) ?_
  refine lv_icmp_lt (tgt := 35) hx hb dX5_temperatureFor_5 (by decide) (fun c1 => ?_) (fun c1 => ?_)
  · refine lv_ldc hx hb hf.2.2.2.1 (hf.2.2.2.2 _ q196) dX5_temperatureFor_35 ?_
    exact e_i hf hr hlocks hw rfl (congrArg (fun z => (z, μ)) ((if_pos c1).trans rfl)) dX5_temperatureFor_37
  · refine lv_lload_n hx hb dX5_temperatureFor_8 rfl (lv_at hl 1 rfl) ?_
    refine lv_aload_n hx hb dX5_temperatureFor_9 rfl (lv_at hl 0 rfl) ?_
    refine lv_iconst (v := 0) hx hb dX5_temperatureFor_10 (by decide) ?_
    refine c_iR hw (run_V (As := [.int 0]) (rest := [.long (w)]) (np := 1) hf hw (k_X5_ratioOf l E _ hj ht (0 : Int32)  ) ⟨gl_V q197 q165 q166 q54 q167, by decide +kernel⟩ ⟨rfl, rfl, Nat.le_of_ble_eq_true rfl, Nat.le_of_ble_eq_true rfl⟩ (lt_iT hj ht) (c_iT E _ hj ht) rfl rfl hl.1 rfl (Nat.le_of_ble_eq_true rfl) dX5_temperatureFor_11 ⟨Nat.zero_le _, Nat.zero_le _⟩) (fun H locs hw => ?_)
    refine lv_i2l hx hb dX5_temperatureFor_14 rfl ?_
    refine W.lcmp hx hb dX5_temperatureFor_15 ?_
    refine lv_if_lt (tgt := 35) hx hb dX5_temperatureFor_16 (by decide) (fun c2 => ?_) (fun c2 => ?_)
    · replace c2 := (lg_cmp_lt _ _).mp c2
      refine lv_ldc hx hb hf.2.2.2.1 (hf.2.2.2.2 _ q196) dX5_temperatureFor_35 ?_
      exact e_i hf hr hlocks hw rfl (congrArg (fun z => (z, μ)) ((if_neg c1).trans ((if_pos c2).trans rfl))) dX5_temperatureFor_37
    · replace c2 := mt (lg_cmp_lt _ _).mpr c2
      refine lv_lload_n hx hb dX5_temperatureFor_19 rfl (lv_at hl 1 rfl) ?_
      refine lv_aload_n hx hb dX5_temperatureFor_20 rfl (lv_at hl 0 rfl) ?_
      refine lv_aload_n hx hb dX5_temperatureFor_21 rfl (lv_at hl 0 rfl) ?_
      refine g_f hw hf (lt_iT hj ht) (c_iT E _ hj ht) rfl inlX5 0 (by decide) rfl q181 rfl dX5_temperatureFor_22 ?_
      refine lv_iconst (v := 1) hx hb dX5_temperatureFor_25 (by decide) ?_
      refine lv_isub hx hb dX5_temperatureFor_26 ?_
      refine c_iR hw (run_V (As := [.int ((μ.1 j (tN t)) - 1)]) (rest := [.long (w)]) (np := 1) hf hw (k_X5_ratioOf l E _ hj ht ((μ.1 j (tN t)) - 1)  ) ⟨gl_V q197 q165 q166 q54 q167, by decide +kernel⟩ ⟨rfl, rfl, Nat.le_of_ble_eq_true rfl, Nat.le_of_ble_eq_true rfl⟩ (lt_iT hj ht) (c_iT E _ hj ht) rfl rfl hl.1 rfl (Nat.le_of_ble_eq_true rfl) dX5_temperatureFor_27 ⟨Nat.zero_le _, Nat.zero_le _⟩) (fun H locs hw => ?_)
      refine lv_i2l hx hb dX5_temperatureFor_30 rfl ?_
      refine W.lcmp hx hb dX5_temperatureFor_31 ?_
      refine lv_if_le (tgt := 38) hx hb dX5_temperatureFor_32 (by decide) (fun c3 => ?_) (fun c3 => ?_)
      · replace c3 := (lg_cmp_le _ _).mp c3
        refine lv_aload_n hx hb dX5_temperatureFor_38 rfl (lv_at hl 0 rfl) ?_
        refine lv_iconst (v := 0) hx hb dX5_temperatureFor_39 (by decide) ?_
        refine c_iR hw (run_V (As := [.int 0]) (rest := []) (np := 1) hf hw (k_X5_temperatureOf l E _ hj ht (0 : Int32)  ) ⟨gl_V q182 q161 q162 q54 q163, by decide +kernel⟩ ⟨rfl, rfl, Nat.le_of_ble_eq_true rfl, Nat.le_of_ble_eq_true rfl⟩ (lt_iT hj ht) (c_iT E _ hj ht) rfl rfl hl.1 rfl (Nat.le_of_ble_eq_true rfl) dX5_temperatureFor_40 ⟨Nat.zero_le _, Nat.zero_le _⟩) (fun H locs hw => ?_)
        refine lv_istore_n (lv' := [(3, .int (sp_X5_temperatureOf (μ.1 j) t (0 : Int32))), (0, .ref (E.1 (iT j t))), (1, .long (w))]) hx hb dX5_temperatureFor_43 rfl hl (by decide) rfl (fun ls hl => ?_)
        refine lv_aload_n hx hb dX5_temperatureFor_44 rfl (lv_at hl 1 rfl) ?_
        refine lv_aload_n hx hb dX5_temperatureFor_45 rfl (lv_at hl 1 rfl) ?_
        refine g_f hw hf (lt_iT hj ht) (c_iT E _ hj ht) rfl inlX5 0 (by decide) rfl q181 rfl dX5_temperatureFor_46 ?_
        refine lv_iconst (v := 1) hx hb dX5_temperatureFor_49 (by decide) ?_
        refine lv_isub hx hb dX5_temperatureFor_50 ?_
        refine c_iR hw (run_V (As := [.int ((μ.1 j (tN t)) - 1)]) (rest := []) (np := 1) hf hw (k_X5_temperatureOf l E _ hj ht ((μ.1 j (tN t)) - 1)  ) ⟨gl_V q182 q161 q162 q54 q163, by decide +kernel⟩ ⟨rfl, rfl, Nat.le_of_ble_eq_true rfl, Nat.le_of_ble_eq_true rfl⟩ (lt_iT hj ht) (c_iT E _ hj ht) rfl rfl hl.1 rfl (Nat.le_of_ble_eq_true rfl) dX5_temperatureFor_51 ⟨Nat.zero_le _, Nat.zero_le _⟩) (fun H locs hw => ?_)
        refine lv_istore (lv' := [(4, .int (sp_X5_temperatureOf (μ.1 j) t ((μ.1 j (tN t)) - 1))), (3, .int (sp_X5_temperatureOf (μ.1 j) t (0 : Int32))), (0, .ref (E.1 (iT j t))), (1, .long (w))]) hx hb dX5_temperatureFor_54 hl (by decide) rfl (fun ls hl => ?_)
        refine lv_iconst (v := 0) hx hb dX5_temperatureFor_56 (by decide) ?_
        refine lv_istore (lv' := [(5, .int 0), (4, .int (sp_X5_temperatureOf (μ.1 j) t ((μ.1 j (tN t)) - 1))), (3, .int (sp_X5_temperatureOf (μ.1 j) t (0 : Int32))), (0, .ref (E.1 (iT j t))), (1, .long (w))]) hx hb dX5_temperatureFor_57 hl (by decide) rfl (fun ls hl => ?_)
        have key_59 : ∀ (f : Nat) (x : Int32) (y : Int32) (k : Nat), k + f = 33 → k ≤ 32 → sp_X5_temperatureFor (μ.1 j) t w = lp_X5_temperatureFor_59 (μ.1 j) t w f x y k → ∀ (ls : Array Slot) (H : Heap) (locs : List Loc), lv_has ls 7 [(0, .ref (E.1 (iT j t))), (1, .long (w)), (3, .int (x)), (4, .int (y)), (5, .int (nI k))] → Wk E μ s H locs → W p l e ({ frames := 1, cells := 0, slots := 0, locals := 28 }) s m args below meth c H locs 0 0 (MQ below (va_Qi (fun r u => r = ((sp_X5_temperatureFor (μ.1 j) t w, μ)).1 ∧ u = ((sp_X5_temperatureFor (μ.1 j) t w, μ)).2) (fun u t => WdU E u t) (inE E)) args s 0 0 (inE E)) (F0 m 59 ls []) := by
          intro f
          induction f with
          | zero => intro x y k h1 h2 hq ls H locs hl hw; exfalso; omega
          | succ f ih =>
            intro x y k h1 h2 hq ls H locs hl hw
            refine lv_iload hx hb dX5_temperatureFor_59 (lv_at hl 4 rfl) ?_
            refine lv_bipush (v := 32) hx hb dX5_temperatureFor_61 (by decide) ?_
            refine lv_icmp_ge (tgt := 112) hx hb dX5_temperatureFor_63 (by decide) (fun c4 => ?_) (fun c4 => ?_)
            · have c4n : 32 ≤ k := by have q := (nI_leI (a := 32) (b := k) (by omega) (by omega)); first | exact q.mp c4 | exact fun z => c4 (q.mpr z)
              refine lv_iload hx hb dX5_temperatureFor_112 (lv_at hl 3 rfl) ?_
              exact e_i hf hr hlocks hw rfl (congrArg (fun z => (z, μ)) ((hq).trans ((if_pos c4).trans rfl))) dX5_temperatureFor_114
            · have c4n : ¬ 32 ≤ k := by have q := (nI_leI (a := 32) (b := k) (by omega) (by omega)); first | exact q.mp c4 | exact fun z => c4 (q.mpr z)
              refine lv_iload_n hx hb dX5_temperatureFor_66 rfl (lv_at hl 2 rfl) ?_
              refine lv_iload hx hb dX5_temperatureFor_67 (lv_at hl 3 rfl) ?_
              refine lv_icmp_ge (tgt := 112) hx hb dX5_temperatureFor_69 (by decide) (fun c5 => ?_) (fun c5 => ?_)
              · refine lv_iload hx hb dX5_temperatureFor_112 (lv_at hl 3 rfl) ?_
                exact e_i hf hr hlocks hw rfl (congrArg (fun z => (z, μ)) ((hq).trans ((if_neg c4).trans ((if_pos c5).trans rfl)))) dX5_temperatureFor_114
              · refine lv_iload_n hx hb dX5_temperatureFor_72 rfl (lv_at hl 2 rfl) ?_
                refine lv_iload hx hb dX5_temperatureFor_73 (lv_at hl 3 rfl) ?_
                refine lv_iload_n hx hb dX5_temperatureFor_75 rfl (lv_at hl 2 rfl) ?_
                refine lv_isub hx hb dX5_temperatureFor_76 ?_
                refine lv_iconst (v := 2) hx hb dX5_temperatureFor_77 (by decide) ?_
                refine lv_idiv hx hb dX5_temperatureFor_78 (by decide) ?_
                refine lv_iadd hx hb dX5_temperatureFor_79 ?_
                refine lv_istore (lv' := [(6, .int (x + ((y - x) / 2))), (0, .ref (E.1 (iT j t))), (1, .long (w)), (3, .int (x)), (4, .int (y)), (5, .int (nI k))]) hx hb dX5_temperatureFor_80 hl (by decide) rfl (fun ls hl => ?_)
                refine lv_aload_n hx hb dX5_temperatureFor_82 rfl (lv_at hl 1 rfl) ?_
                refine lv_iload hx hb dX5_temperatureFor_83 (lv_at hl 0 rfl) ?_
                refine c_iR hw (run_V (As := [.int (x + ((y - x) / 2))]) (rest := []) (np := 1) hf hw (k_X5_ratioAt l E _ hj ht (x + ((y - x) / 2))  ) ⟨gl_V q198 q184 q185 q54 q186, by decide +kernel⟩ ⟨rfl, rfl, Nat.le_of_ble_eq_true rfl, Nat.le_of_ble_eq_true rfl⟩ (lt_iT hj ht) (c_iT E _ hj ht) rfl rfl hl.1 rfl (Nat.le_of_ble_eq_true rfl) dX5_temperatureFor_85 ⟨Nat.zero_le _, Nat.zero_le _⟩) (fun H locs hw => ?_)
                refine lv_i2l hx hb dX5_temperatureFor_88 rfl ?_
                refine lv_lload_n hx hb dX5_temperatureFor_89 rfl (lv_at hl 2 rfl) ?_
                refine W.lcmp hx hb dX5_temperatureFor_90 ?_
                refine lv_if_lt (tgt := 101) hx hb dX5_temperatureFor_91 (by decide) (fun c6 => ?_) (fun c6 => ?_)
                · replace c6 := (lg_cmp_lt _ _).mp c6
                  refine lv_iload hx hb dX5_temperatureFor_101 (lv_at hl 0 rfl) ?_
                  refine lv_iconst (v := 1) hx hb dX5_temperatureFor_103 (by decide) ?_
                  refine lv_iadd hx hb dX5_temperatureFor_104 ?_
                  refine lv_istore_n (lv' := [(3, .int ((x + ((y - x) / 2)) + 1)), (6, .int (x + ((y - x) / 2))), (0, .ref (E.1 (iT j t))), (1, .long (w)), (4, .int (y)), (5, .int (nI k))]) hx hb dX5_temperatureFor_105 rfl hl (by decide) rfl (fun ls hl => ?_)
                  refine lv_iinc (v := nI (k + 1)) (lv' := [(5, .int (nI (k + 1))), (3, .int ((x + ((y - x) / 2)) + 1)), (6, .int (x + ((y - x) / 2))), (0, .ref (E.1 (iT j t))), (1, .long (w)), (4, .int (y))]) hx hb dX5_temperatureFor_106 hl (k := 5) rfl (nI_1 _) (by decide) rfl (fun ls hl => ?_)
                  refine lv_goto (tgt := 59) hx hb dX5_temperatureFor_109 (by decide) ?_
                  exact ih ((x + ((y - x) / 2)) + 1) y (k + 1) (by omega) (by omega) (((hq).trans ((if_neg c4).trans ((if_neg c5).trans ((if_pos c6).trans rfl))))) _ _ _ (lv_sub hl [3, 4, 1, 5, 0] rfl) hw
                · replace c6 := mt (lg_cmp_lt _ _).mpr c6
                  refine lv_iload hx hb dX5_temperatureFor_94 (lv_at hl 0 rfl) ?_
                  refine lv_istore (lv' := [(4, .int (x + ((y - x) / 2))), (6, .int (x + ((y - x) / 2))), (0, .ref (E.1 (iT j t))), (1, .long (w)), (3, .int (x)), (5, .int (nI k))]) hx hb dX5_temperatureFor_96 hl (by decide) rfl (fun ls hl => ?_)
                  refine lv_goto (tgt := 106) hx hb dX5_temperatureFor_98 (by decide) ?_
                  refine lv_iinc (v := nI (k + 1)) (lv' := [(5, .int (nI (k + 1))), (4, .int (x + ((y - x) / 2))), (6, .int (x + ((y - x) / 2))), (0, .ref (E.1 (iT j t))), (1, .long (w)), (3, .int (x))]) hx hb dX5_temperatureFor_106 hl (k := 5) rfl (nI_1 _) (by decide) rfl (fun ls hl => ?_)
                  refine lv_goto (tgt := 59) hx hb dX5_temperatureFor_109 (by decide) ?_
                  exact ih x (x + ((y - x) / 2)) (k + 1) (by omega) (by omega) (((hq).trans ((if_neg c4).trans ((if_neg c5).trans ((if_neg c6).trans rfl))))) _ _ _ (lv_sub hl [3, 4, 5, 1, 0] rfl) hw
        exact key_59 33 (sp_X5_temperatureOf (μ.1 j) t (0 : Int32)) (sp_X5_temperatureOf (μ.1 j) t ((μ.1 j (tN t)) - 1)) 0 (by omega) (by omega) (((if_neg c1).trans ((if_neg c2).trans ((if_pos c3).trans rfl)))) _ _ _ (lv_sub hl [3, 4, 2, 1, 0] rfl) hw
      · replace c3 := mt (lg_cmp_le _ _).mpr c3
        refine lv_ldc hx hb hf.2.2.2.1 (hf.2.2.2.2 _ q196) dX5_temperatureFor_35 ?_
        exact e_i hf hr hlocks hw rfl (congrArg (fun z => (z, μ)) ((if_neg c1).trans ((if_neg c2).trans ((if_neg c3).trans rfl)))) dX5_temperatureFor_37
def sp_X4_baseFor (g : Nat → Int32) (n : Nat) (o : Int64) (w : Int32) : Int64 :=
  oc (sp_X4_tableAt g  (g (sF n 0))) (
    0) (fun t2 =>
    if (0 : Int64) < (sp_X5_ratioAt g t2 w).toInt64 then
      (o * 1000000) / ((sp_X5_ratioAt g t2 w).toInt64)
    else
      0)
