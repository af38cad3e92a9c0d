/-! ===== OhmBridge: the texts' orders are tried, told and done ===== -/
theorem pC_row {μ : Mu} {c b c' b' n x : Nat} (h : x ≠ c) : (pC μ c b c' b' n).1 x = μ.1 x := by
  funext y
  show (if x = c ∧ b ≤ y ∧ y < b + n then _ else μ.1 x y) = μ.1 x y
  rw [if_neg (fun q => h q.1)]
theorem pM_row {μ : Mu} {c k x : Nat} {v : Int32} (h : x ≠ c) : (pM μ c k v).1 x = μ.1 x := upM_r _ _ h
theorem cp_row {μ : Mu} {j j2 x : Nat} (h : x ≠ j) : (sp_X4_copy μ j j2).1 x = μ.1 x := by
  simp only [sp_X4_copy, sp_X5_copy, sp_X3_copy, pC_row h, pM_row h]
theorem ch_cpy {μ : Mu} {j j2 : Nat} (h6 : j ≠ 6) (hch : ChOk (μ.1 6)) : ChOk ((sp_X4_copy μ j j2).1 6) := ch_keep (fun y _ => by rw [cp_row (Ne.symm h6)]) hch
def lp_X7_tryOrders_28 (μ : Mu)   : Nat → Nat → Mu → Mu
  | 0, _, μ1 => μ1
  | f + 1, k, μ1 =>
    if (60 : Int32) ≤ nI k then
      μ1
    else
      if ((μ1).1 6 3 : Int32) ≤ (μ1).1 6 77 then
        μ1
      else
        if ((sp_X6_parse μ1  ((μ1).1 6 77)).1 : Int32) = 0 then
          pM ((sp_X6_parse μ1  ((μ1).1 6 77)).2) 6 78 (1 : Int32)
        else
          if ((sp_X7_obey ((sp_X6_parse μ1  ((μ1).1 6 77)).2)  ).1 : Int32) = 0 then
            lp_X7_tryOrders_28 μ  f (k + 1) (pM (pM (pM ((sp_X7_obey ((sp_X6_parse μ1  ((μ1).1 6 77)).2)  ).2) 6 78 ((sp_X7_obey ((sp_X6_parse μ1  ((μ1).1 6 77)).2)  ).1)) 6 79 ((((sp_X7_obey ((sp_X6_parse μ1  ((μ1).1 6 77)).2)  ).2).1 6 79) + 1)) 6 77 (((sp_X7_obey ((sp_X6_parse μ1  ((μ1).1 6 77)).2)  ).2).1 6 7))
          else
            pM ((sp_X7_obey ((sp_X6_parse μ1  ((μ1).1 6 77)).2)  ).2) 6 78 ((sp_X7_obey ((sp_X6_parse μ1  ((μ1).1 6 77)).2)  ).1)
def sp_X7_tryOrders (μ : Mu)   : Mu :=
  lp_X7_tryOrders_28 μ  61 0 (pM (pM (pM (sp_X4_copy μ 1 0 ) 6 78 (0 : Int32)) 6 77 (0 : Int32)) 6 79 (0 : Int32))
set_option maxHeartbeats 4000000 in
set_option maxRecDepth 100000 in
theorem k_X7_tryOrders (l : Launch) (E : En) (μ : Mu)   (hch : ChOk (μ.1 6)) : MtV l yX7_tryOrders cX7_tryOrders 2 ({ frames := 5, cells := 0, slots := 0, locals := 133 }) [.ref (E.1 (231))] E μ (sp_X7_tryOrders μ ) := by
  refine mt_of (by decide +kernel) (Nat.le_of_ble_eq_true rfl) ?_
  intro p e s m args below meth c ls hf hr hlocks hl hw
  have hx := hf.1
  have hb := hf.2.1
  have hl : lv_has ls 2 [(0, .ref (E.1 (231)))] := hl
  refine lv_aload_n hx hb dX7_tryOrders_0 rfl (lv_at hl 0 rfl) ?_
  refine g_f hw hf (by decide) (c_O E _) rfl inlX7 1 (by decide) rfl q16 rfl dX7_tryOrders_1 ?_
  refine lv_aload_n hx hb dX7_tryOrders_4 rfl (lv_at hl 0 rfl) ?_
  refine g_f hw hf (by decide) (c_O E _) rfl inlX7 0 (by decide) rfl q15 rfl dX7_tryOrders_5 ?_
  refine c_v hw (run_V (As := [.ref (E.1 (iS 0))]) (rest := []) (np := 1) hf hw (k_X4_copy l E _ (by decide) (by decide)  (by decide) ) ⟨gl_V q944 q114 q115 q14 q116, by decide +kernel⟩ ⟨rfl, rfl, Nat.le_of_ble_eq_true rfl, Nat.le_of_ble_eq_true rfl⟩ (lt_iS (by decide)) (c_iS E _ (by decide)) rfl rfl hl.1 rfl (Nat.le_of_ble_eq_true rfl) dX7_tryOrders_8 ⟨Nat.zero_le _, Nat.zero_le _⟩) (fun H locs hw => ?_)
  refine lv_aload_n hx hb dX7_tryOrders_11 rfl (lv_at hl 0 rfl) ?_
  refine lv_iconst (v := 0) hx hb dX7_tryOrders_12 (by decide) ?_
  refine p_f hw hf (by decide) (c_O E _) rfl inlX7 tyX7_ok nmX7 8 (by decide) rfl q936 rfl rfl rfl (Nat.le_of_ble_eq_true rfl) (s_O_8 E _ _) dX7_tryOrders_13 (fun H locs hw => ?_)
  refine lv_aload_n hx hb dX7_tryOrders_16 rfl (lv_at hl 0 rfl) ?_
  refine lv_iconst (v := 0) hx hb dX7_tryOrders_17 (by decide) ?_
  refine p_f hw hf (by decide) (c_O E _) rfl inlX7 tyX7_ok nmX7 7 (by decide) rfl q937 rfl rfl rfl (Nat.le_of_ble_eq_true rfl) (s_O_7 E _ _) dX7_tryOrders_18 (fun H locs hw => ?_)
  refine lv_aload_n hx hb dX7_tryOrders_21 rfl (lv_at hl 0 rfl) ?_
  refine lv_iconst (v := 0) hx hb dX7_tryOrders_22 (by decide) ?_
  refine p_f hw hf (by decide) (c_O E _) rfl inlX7 tyX7_ok nmX7 9 (by decide) rfl q942 rfl rfl rfl (Nat.le_of_ble_eq_true rfl) (s_O_9 E _ _) dX7_tryOrders_23 (fun H locs hw => ?_)
  refine lv_iconst (v := 0) hx hb dX7_tryOrders_26 (by decide) ?_
  refine lv_istore_n (lv' := [(1, .int 0), (0, .ref (E.1 (231)))]) hx hb dX7_tryOrders_27 rfl hl (by decide) rfl (fun ls hl => ?_)
  have key_28 : ∀ (f : Nat) (k : Nat) (μ1 : Mu), k + f = 61 → k ≤ 60 → ChOk (μ1.1 6) → sp_X7_tryOrders μ  = lp_X7_tryOrders_28 μ  f k μ1 → ∀ (ls : Array Slot) (H : Heap) (locs : List Loc), lv_has ls 2 [(0, .ref (E.1 (231))), (1, .int (nI k))] → Wk E μ1 s H locs → W p l e ({ frames := 5, cells := 0, slots := 0, locals := 133 }) s m args below meth c H locs 0 0 (MQ below (va_Qv (fun u => u = (sp_X7_tryOrders μ )) (fun u t => WdU E u t) (inE E)) args s 0 0 (inE E)) (F0 m 28 ls []) := by
    intro f
    induction f with
    | zero => intro k μ1 h1 h2 hch1 hq ls H locs hl hw; exfalso; omega
    | succ f ih =>
      intro k μ1 h1 h2 hch1 hq ls H locs hl hw
      refine lv_iload_n hx hb dX7_tryOrders_28 rfl (lv_at hl 1 rfl) ?_
      refine lv_bipush (v := 60) hx hb dX7_tryOrders_29 (by decide) ?_
      refine lv_icmp_ge (tgt := 109) hx hb dX7_tryOrders_31 (by decide) (fun c1 => ?_) (fun c1 => ?_)
      · have c1n : 60 ≤ k := by have q := (nI_leI (a := 60) (b := k) (by omega) (by omega)); first | exact q.mp c1 | exact fun z => c1 (q.mpr z)
        exact e_v hf hr hlocks hw ((hq).trans ((if_pos c1).trans rfl)) dX7_tryOrders_109
      · have c1n : ¬ 60 ≤ k := by have q := (nI_leI (a := 60) (b := k) (by omega) (by omega)); first | exact q.mp c1 | exact fun z => c1 (q.mpr z)
        refine lv_aload_n hx hb dX7_tryOrders_34 rfl (lv_at hl 0 rfl) ?_
        refine g_f hw hf (by decide) (c_O E _) rfl inlX7 7 (by decide) rfl q937 rfl dX7_tryOrders_35 ?_
        refine lv_aload_n hx hb dX7_tryOrders_38 rfl (lv_at hl 0 rfl) ?_
        refine g_f hw hf (by decide) (c_O E _) rfl inlX7 5 (by decide) rfl q32 rfl dX7_tryOrders_39 ?_
        refine g_f hw hf (by decide) (c_Tx E _) rfl inlX6 0 (by decide) rfl q876 rfl dX7_tryOrders_42 ?_
        refine lv_icmp_ge (tgt := 109) hx hb dX7_tryOrders_45 (by decide) (fun c2 => ?_) (fun c2 => ?_)
        · exact e_v hf hr hlocks hw ((hq).trans ((if_neg c1).trans ((if_pos c2).trans rfl))) dX7_tryOrders_109
        · refine lv_aload_n hx hb dX7_tryOrders_48 rfl (lv_at hl 0 rfl) ?_
          refine lv_aload_n hx hb dX7_tryOrders_49 rfl (lv_at hl 0 rfl) ?_
          refine g_f hw hf (by decide) (c_O E _) rfl inlX7 5 (by decide) rfl q32 rfl dX7_tryOrders_50 ?_
          refine lv_aload_n hx hb dX7_tryOrders_53 rfl (lv_at hl 0 rfl) ?_
          refine g_f hw hf (by decide) (c_O E _) rfl inlX7 7 (by decide) rfl q937 rfl dX7_tryOrders_54 ?_
          refine c_i hw (run_V (As := [.int ((μ1).1 6 77)]) (rest := [.ref (E.1 (231))]) (np := 1) hf hw (k_X6_parse l E _  ((μ1).1 6 77)  hch1) ⟨gl_V q945 q946 q947 q31 q948, by decide +kernel⟩ ⟨rfl, rfl, Nat.le_of_ble_eq_true rfl, Nat.le_of_ble_eq_true rfl⟩ (by decide) (c_Tx E _) rfl rfl hl.1 rfl (Nat.le_of_ble_eq_true rfl) dX7_tryOrders_57 ⟨Nat.zero_le _, Nat.zero_le _⟩) (fun H locs hw => ?_)
          refine lv_if_eq (tgt := 70) hx hb dX7_tryOrders_60 (by decide) (fun c3 => ?_) (fun c3 => ?_)
          · refine lv_iconst (v := 1) hx hb dX7_tryOrders_70 (by decide) ?_
            refine p_f hw hf (by decide) (c_O E _) rfl inlX7 tyX7_ok nmX7 8 (by decide) rfl q936 rfl rfl rfl (Nat.le_of_ble_eq_true rfl) (s_O_8 E _ _) dX7_tryOrders_71 (fun H locs hw => ?_)
            refine lv_aload_n hx hb dX7_tryOrders_74 rfl (lv_at hl 0 rfl) ?_
            refine g_f hw hf (by decide) (c_O E _) rfl inlX7 8 (by decide) rfl q936 (congrArg (fun z => some (Value.int z)) (show _ = (1 : Int32) from (by first | (simp [pM, pJ, upM, upJ, sF, tN, tD, tR, tk_M, tk_K, tk_0, tk_1, tk_2, tk_3, tk_4, tk_5, tk_6, tk_7, tk_8, tk_9, tk_10, tk_o, ms_0_0, ms_0_1, ms_0_2, ms_0_3, ms_0_4, ms_0_5, ms_0_6, ms_0_7, ms_0_8, ms_0_9, ms_0_10, ms_1_0, ms_1_1, ms_1_2, ms_1_3, ms_1_4, ms_1_5, ms_1_6, ms_1_7, ms_1_8, ms_1_9, ms_1_10, ms_w, ms_r, ms_d, ms_M, ms_6, ms_K]; done) | (simp (disch := (first | omega | (simp only [tN, tD, tR, sF]; omega))) only [pM, pJ, upM_s, upM_k, upM_c, upJ_s, upJ_k, upJ_c, tk_M, tk_K, tk_0, tk_1, tk_2, tk_3, tk_4, tk_5, tk_6, tk_7, tk_8, tk_9, tk_10, tk_o, ms_0_0, ms_0_1, ms_0_2, ms_0_3, ms_0_4, ms_0_5, ms_0_6, ms_0_7, ms_0_8, ms_0_9, ms_0_10, ms_1_0, ms_1_1, ms_1_2, ms_1_3, ms_1_4, ms_1_5, ms_1_6, ms_1_7, ms_1_8, ms_1_9, ms_1_10, ms_w, ms_r, ms_d, ms_M, ms_6, ms_K])))) dX7_tryOrders_75 ?_
            refine lv_if_eq (tgt := 82) hx hb dX7_tryOrders_78 (by decide) (fun c => absurd c (by decide)) (fun _ => ?_)
            exact e_v hf hr hlocks hw ((hq).trans ((if_neg c1).trans ((if_neg c2).trans ((if_pos c3).trans rfl)))) dX7_tryOrders_81
          · refine lv_aload_n hx hb dX7_tryOrders_63 rfl (lv_at hl 0 rfl) ?_
            refine c_i hw (run_V (As := []) (rest := [.ref (E.1 (231))]) (np := 0) hf hw (k_X7_obey l E _    ) ⟨gl_V q969 q970 q971 q2 q972, by decide +kernel⟩ ⟨rfl, rfl, Nat.le_of_ble_eq_true rfl, Nat.le_of_ble_eq_true rfl⟩ (by decide) (c_O E _) rfl rfl hl.1 rfl (Nat.le_of_ble_eq_true rfl) dX7_tryOrders_64 ⟨Nat.zero_le _, Nat.zero_le _⟩) (fun H locs hw => ?_)
            refine lv_goto (tgt := 71) hx hb dX7_tryOrders_67 (by decide) ?_
            refine p_f hw hf (by decide) (c_O E _) rfl inlX7 tyX7_ok nmX7 8 (by decide) rfl q936 rfl rfl rfl (Nat.le_of_ble_eq_true rfl) (s_O_8 E _ _) dX7_tryOrders_71 (fun H locs hw => ?_)
            refine lv_aload_n hx hb dX7_tryOrders_74 rfl (lv_at hl 0 rfl) ?_
            refine g_f hw hf (by decide) (c_O E _) rfl inlX7 8 (by decide) rfl q936 (congrArg (fun z => some (Value.int z)) (show _ = (sp_X7_obey ((sp_X6_parse μ1  ((μ1).1 6 77)).2)  ).1 from (by first | (simp [pM, pJ, upM, upJ, sF, tN, tD, tR, tk_M, tk_K, tk_0, tk_1, tk_2, tk_3, tk_4, tk_5, tk_6, tk_7, tk_8, tk_9, tk_10, tk_o, ms_0_0, ms_0_1, ms_0_2, ms_0_3, ms_0_4, ms_0_5, ms_0_6, ms_0_7, ms_0_8, ms_0_9, ms_0_10, ms_1_0, ms_1_1, ms_1_2, ms_1_3, ms_1_4, ms_1_5, ms_1_6, ms_1_7, ms_1_8, ms_1_9, ms_1_10, ms_w, ms_r, ms_d, ms_M, ms_6, ms_K]; done) | (simp (disch := (first | omega | (simp only [tN, tD, tR, sF]; omega))) only [pM, pJ, upM_s, upM_k, upM_c, upJ_s, upJ_k, upJ_c, tk_M, tk_K, tk_0, tk_1, tk_2, tk_3, tk_4, tk_5, tk_6, tk_7, tk_8, tk_9, tk_10, tk_o, ms_0_0, ms_0_1, ms_0_2, ms_0_3, ms_0_4, ms_0_5, ms_0_6, ms_0_7, ms_0_8, ms_0_9, ms_0_10, ms_1_0, ms_1_1, ms_1_2, ms_1_3, ms_1_4, ms_1_5, ms_1_6, ms_1_7, ms_1_8, ms_1_9, ms_1_10, ms_w, ms_r, ms_d, ms_M, ms_6, ms_K])))) dX7_tryOrders_75 ?_
            refine lv_if_eq (tgt := 82) hx hb dX7_tryOrders_78 (by decide) (fun c5 => ?_) (fun c5 => ?_)
            · refine lv_aload_n hx hb dX7_tryOrders_82 rfl (lv_at hl 0 rfl) ?_
              refine lv_dup hx hb dX7_tryOrders_83 rfl ?_
              refine g_f hw hf (by decide) (c_O E _) rfl inlX7 9 (by decide) rfl q942 (congrArg (fun z => some (Value.int z)) (show _ = ((sp_X7_obey ((sp_X6_parse μ1  ((μ1).1 6 77)).2)  ).2).1 6 79 from (by first | (simp [pM, pJ, upM, upJ, sF, tN, tD, tR, tk_M, tk_K, tk_0, tk_1, tk_2, tk_3, tk_4, tk_5, tk_6, tk_7, tk_8, tk_9, tk_10, tk_o, ms_0_0, ms_0_1, ms_0_2, ms_0_3, ms_0_4, ms_0_5, ms_0_6, ms_0_7, ms_0_8, ms_0_9, ms_0_10, ms_1_0, ms_1_1, ms_1_2, ms_1_3, ms_1_4, ms_1_5, ms_1_6, ms_1_7, ms_1_8, ms_1_9, ms_1_10, ms_w, ms_r, ms_d, ms_M, ms_6, ms_K]; done) | (simp (disch := (first | omega | (simp only [tN, tD, tR, sF]; omega))) only [pM, pJ, upM_s, upM_k, upM_c, upJ_s, upJ_k, upJ_c, tk_M, tk_K, tk_0, tk_1, tk_2, tk_3, tk_4, tk_5, tk_6, tk_7, tk_8, tk_9, tk_10, tk_o, ms_0_0, ms_0_1, ms_0_2, ms_0_3, ms_0_4, ms_0_5, ms_0_6, ms_0_7, ms_0_8, ms_0_9, ms_0_10, ms_1_0, ms_1_1, ms_1_2, ms_1_3, ms_1_4, ms_1_5, ms_1_6, ms_1_7, ms_1_8, ms_1_9, ms_1_10, ms_w, ms_r, ms_d, ms_M, ms_6, ms_K])))) dX7_tryOrders_84 ?_
              refine lv_iconst (v := 1) hx hb dX7_tryOrders_87 (by decide) ?_
              refine lv_iadd hx hb dX7_tryOrders_88 ?_
              refine p_f hw hf (by decide) (c_O E _) rfl inlX7 tyX7_ok nmX7 9 (by decide) rfl q942 rfl rfl rfl (Nat.le_of_ble_eq_true rfl) (s_O_9 E _ _) dX7_tryOrders_89 (fun H locs hw => ?_)
              refine lv_aload_n hx hb dX7_tryOrders_92 rfl (lv_at hl 0 rfl) ?_
              refine lv_aload_n hx hb dX7_tryOrders_93 rfl (lv_at hl 0 rfl) ?_
              refine g_f hw hf (by decide) (c_O E _) rfl inlX7 5 (by decide) rfl q32 rfl dX7_tryOrders_94 ?_
              refine g_f hw hf (by decide) (c_Tx E _) rfl inlX6 4 (by decide) rfl q943 (congrArg (fun z => some (Value.int z)) (show _ = ((sp_X7_obey ((sp_X6_parse μ1  ((μ1).1 6 77)).2)  ).2).1 6 7 from (by first | (simp [pM, pJ, upM, upJ, sF, tN, tD, tR, tk_M, tk_K, tk_0, tk_1, tk_2, tk_3, tk_4, tk_5, tk_6, tk_7, tk_8, tk_9, tk_10, tk_o, ms_0_0, ms_0_1, ms_0_2, ms_0_3, ms_0_4, ms_0_5, ms_0_6, ms_0_7, ms_0_8, ms_0_9, ms_0_10, ms_1_0, ms_1_1, ms_1_2, ms_1_3, ms_1_4, ms_1_5, ms_1_6, ms_1_7, ms_1_8, ms_1_9, ms_1_10, ms_w, ms_r, ms_d, ms_M, ms_6, ms_K]; done) | (simp (disch := (first | omega | (simp only [tN, tD, tR, sF]; omega))) only [pM, pJ, upM_s, upM_k, upM_c, upJ_s, upJ_k, upJ_c, tk_M, tk_K, tk_0, tk_1, tk_2, tk_3, tk_4, tk_5, tk_6, tk_7, tk_8, tk_9, tk_10, tk_o, ms_0_0, ms_0_1, ms_0_2, ms_0_3, ms_0_4, ms_0_5, ms_0_6, ms_0_7, ms_0_8, ms_0_9, ms_0_10, ms_1_0, ms_1_1, ms_1_2, ms_1_3, ms_1_4, ms_1_5, ms_1_6, ms_1_7, ms_1_8, ms_1_9, ms_1_10, ms_w, ms_r, ms_d, ms_M, ms_6, ms_K])))) dX7_tryOrders_97 ?_
              refine p_f hw hf (by decide) (c_O E _) rfl inlX7 tyX7_ok nmX7 7 (by decide) rfl q937 rfl rfl rfl (Nat.le_of_ble_eq_true rfl) (s_O_7 E _ _) dX7_tryOrders_100 (fun H locs hw => ?_)
              refine lv_iinc (v := nI (k + 1)) (lv' := [(1, .int (nI (k + 1))), (0, .ref (E.1 (231)))]) hx hb dX7_tryOrders_103 hl (k := 1) rfl (nI_1 _) (by decide) rfl (fun ls hl => ?_)
              refine lv_goto (tgt := 28) hx hb dX7_tryOrders_106 (by decide) ?_
              exact ih (k + 1) (pM (pM (pM ((sp_X7_obey ((sp_X6_parse μ1  ((μ1).1 6 77)).2)  ).2) 6 78 ((sp_X7_obey ((sp_X6_parse μ1  ((μ1).1 6 77)).2)  ).1)) 6 79 ((((sp_X7_obey ((sp_X6_parse μ1  ((μ1).1 6 77)).2)  ).2).1 6 79) + 1)) 6 77 (((sp_X7_obey ((sp_X6_parse μ1  ((μ1).1 6 77)).2)  ).2).1 6 7)) (by omega) (by omega) (ch_up (ch_up (ch_up (ch_X7_obey _ (ch_X6_parse _ _ hch1)) (by decide)) (by decide)) (by decide)) (((hq).trans ((if_neg c1).trans ((if_neg c2).trans ((if_neg c3).trans ((if_pos c5).trans rfl)))))) _ _ _ (lv_sub hl [1, 0] rfl) hw
            · exact e_v hf hr hlocks hw ((hq).trans ((if_neg c1).trans ((if_neg c2).trans ((if_neg c3).trans ((if_neg c5).trans rfl))))) dX7_tryOrders_81
  exact key_28 61 0 (pM (pM (pM (sp_X4_copy μ 1 0 ) 6 78 (0 : Int32)) 6 77 (0 : Int32)) 6 79 (0 : Int32)) (by omega) (by omega) (ch_up (ch_up (ch_up (ch_cpy (by decide) hch) (by decide)) (by decide)) (by decide)) (rfl) _ _ _ (lv_sub hl [1, 0] rfl) hw
def sp_X7_fault (μ : Mu)  (a : Int32) : Int32 × Mu :=
  if (0 : Int64) ≤ (a.toInt64) ∧ (a.toInt64) ≤ (1 : Int64) then
    if ((sp_X7_tryOrders μ  ).1 6 78 : Int32) = 0 then
      ((-2000000004), sp_X7_tryOrders μ  )
    else
      if (a : Int32) = 0 then
        ((sp_X7_tryOrders μ  ).1 6 77, sp_X7_tryOrders μ  )
      else
        ((sp_X7_tryOrders μ  ).1 6 78, sp_X7_tryOrders μ  )
  else
    ((-2000000001), μ)
set_option maxHeartbeats 4000000 in
set_option maxRecDepth 100000 in
theorem k_X7_fault (l : Launch) (E : En) (μ : Mu)  (a : Int32) (hch : ChOk (μ.1 6)) : MtI l yX7_fault cX7_fault 2 .int ({ frames := 6, cells := 0, slots := 0, locals := 154 }) [.ref (E.1 (231)), .int (a)] E μ (sp_X7_fault μ a) := by
  refine mt_of (by decide +kernel) (Nat.le_of_ble_eq_true rfl) ?_
  intro p e s m args below meth c ls hf hr hlocks hl hw
  have hx := hf.1
  have hb := hf.2.1
  have hl : lv_has ls 2 [(0, .ref (E.1 (231))), (1, .int (a))] := hl
  refine lv_iload_n hx hb dX7_fault_0 rfl (lv_at hl 1 rfl) ?_
  refine lv_i2l hx hb dX7_fault_1 rfl ?_
  refine lv_lconst (v := 0) hx hb dX7_fault_2 (by decide) ?_
  refine lv_lconst (v := 1) hx hb dX7_fault_3 (by decide) ?_
  refine c_iR hw (run_S (As := [.long (a.toInt64), .long (0), .long (1)]) (rest := []) (np := 3) hf hw (kn_X7_isWithin l E _  (a.toInt64) (0 : Int64) (1 : Int64)  ) ⟨gl_S q173 q174 q2 q175, by decide +kernel⟩ ⟨rfl, rfl, Nat.le_of_ble_eq_true rfl, Nat.le_of_ble_eq_true rfl⟩ rfl hl.1 rfl (Nat.le_of_ble_eq_true rfl) dX7_fault_4 ⟨Nat.zero_le _, Nat.zero_le _⟩) (fun H locs hw => ?_)
  refine lv_if_ne (tgt := 13) hx hb dX7_fault_7 (by decide) (fun c1 => ?_) (fun c1 => ?_)
  · replace c1 := (bz_n0 _).mp c1
    refine lv_aload_n hx hb dX7_fault_13 rfl (lv_at hl 0 rfl) ?_
    refine c_v hw (run_V (As := []) (rest := []) (np := 0) hf hw (k_X7_tryOrders l E _    hch) ⟨gl_V q938 q939 q940 q2 q941, by decide +kernel⟩ ⟨rfl, rfl, Nat.le_of_ble_eq_true rfl, Nat.le_of_ble_eq_true rfl⟩ (by decide) (c_O E _) rfl rfl hl.1 rfl (Nat.le_of_ble_eq_true rfl) dX7_fault_14 ⟨Nat.zero_le _, Nat.zero_le _⟩) (fun H locs hw => ?_)
    refine lv_aload_n hx hb dX7_fault_17 rfl (lv_at hl 0 rfl) ?_
    refine g_f hw hf (by decide) (c_O E _) rfl inlX7 8 (by decide) rfl q936 rfl dX7_fault_18 ?_
    refine lv_if_ne (tgt := 27) hx hb dX7_fault_21 (by decide) (fun c2 => ?_) (fun c2 => ?_)
    · refine lv_iload_n hx hb dX7_fault_27 rfl (lv_at hl 1 rfl) ?_
      refine lv_if_ne (tgt := 38) hx hb dX7_fault_28 (by decide) (fun c3 => ?_) (fun c3 => ?_)
      · refine lv_aload_n hx hb dX7_fault_38 rfl (lv_at hl 0 rfl) ?_
        refine g_f hw hf (by decide) (c_O E _) rfl inlX7 8 (by decide) rfl q936 rfl dX7_fault_39 ?_
        exact e_i hf hr hlocks hw rfl ((if_pos c1).trans ((if_neg c2).trans ((if_neg c3).trans rfl))) dX7_fault_42
      · refine lv_aload_n hx hb dX7_fault_31 rfl (lv_at hl 0 rfl) ?_
        refine g_f hw hf (by decide) (c_O E _) rfl inlX7 7 (by decide) rfl q937 rfl dX7_fault_32 ?_
        refine lv_goto (tgt := 42) hx hb dX7_fault_35 (by decide) ?_
        exact e_i hf hr hlocks hw rfl ((if_pos c1).trans ((if_neg c2).trans ((if_pos c3).trans rfl))) dX7_fault_42
    · refine lv_ldc hx hb hf.2.2.2.1 (hf.2.2.2.2 _ q235) dX7_fault_24 ?_
      exact e_i hf hr hlocks hw rfl ((if_pos c1).trans ((if_pos c2).trans rfl)) dX7_fault_26
  · replace c1 := (bz_0 _).mp c1
    refine lv_ldc hx hb hf.2.2.2.1 (hf.2.2.2.2 _ q161) dX7_fault_10 ?_
    exact e_i hf hr hlocks hw rfl ((if_neg c1).trans rfl) dX7_fault_12
theorem fr_lp_X7_tryOrders_28 {K : Nat → Nat} {M0 : Nat → Nat → Int32} (μ : Mu)    (f : Nat) : ∀ (k : Nat) (μ1 : Mu), Fr K M0 μ1 → Fr K M0 ((lp_X7_tryOrders_28 μ   f k μ1)) := by
  induction f with
  | zero => intro k μ1 h1; exact h1
  | succ f ih =>
    intro k μ1 h1
    unfold lp_X7_tryOrders_28
    exact (fr_iteM h1 (fr_iteM h1 (fr_iteM (fr_pM (c := 6) (by decide) (fr_X6_parse μ1 ((μ1).1 6 77)  h1)) (fr_iteM (ih _ _ (fr_pM (c := 6) (by decide) (fr_pM (c := 6) (by decide) (fr_pM (c := 6) (by decide) (fr_X7_obey ((sp_X6_parse μ1  ((μ1).1 6 77)).2)  (fr_X6_parse μ1 ((μ1).1 6 77)  h1)))))) (fr_pM (c := 6) (by decide) (fr_X7_obey ((sp_X6_parse μ1  ((μ1).1 6 77)).2)  (fr_X6_parse μ1 ((μ1).1 6 77)  h1)))))))
theorem fr_X7_tryOrders {K : Nat → Nat} {M0 : Nat → Nat → Int32} (μ : Mu)    (hh : Fr K M0 μ) : Fr K M0 ((sp_X7_tryOrders μ )) := by
  unfold sp_X7_tryOrders
  exact (fr_lp_X7_tryOrders_28 _ _ _ _ (fr_pM (c := 6) (by decide) (fr_pM (c := 6) (by decide) (fr_pM (c := 6) (by decide) (fr_X4_copy μ 1 0  (by omega) hh)))))
theorem fr_X7_fault {K : Nat → Nat} {M0 : Nat → Nat → Int32} (μ : Mu)  (a : Int32)  (hh : Fr K M0 μ) : Fr K M0 ((sp_X7_fault μ a).2) := by
  unfold sp_X7_fault
  exact (fr_ite (fr_ite (fr_lf (fr_X7_tryOrders μ  hh)) (fr_ite (fr_lf (fr_X7_tryOrders μ  hh)) (fr_lf (fr_X7_tryOrders μ  hh)))) (fr_lf hh))
def sp_X7_play (μ : Mu)   : Int32 × Mu :=
  if ((sp_X7_tryOrders μ  ).1 6 78 : Int32) = 0 then
    ((sp_X4_copy (sp_X0_record (sp_X7_tryOrders μ  )  ) 0 1 ).1 6 79, sp_X4_copy (sp_X0_record (sp_X7_tryOrders μ  )  ) 0 1 )
  else
    ((-2000000002), sp_X7_tryOrders μ  )
set_option maxHeartbeats 4000000 in
set_option maxRecDepth 100000 in
theorem k_X7_play (l : Launch) (E : En) (μ : Mu)   (hch : ChOk (μ.1 6)) (hK : KOk μ.2.2) : MtI l yX7_play cX7_play 1 .int ({ frames := 6, cells := 0, slots := 0, locals := 154 }) [.ref (E.1 (231))] E μ (sp_X7_play μ ) := by
  refine mt_of (by decide +kernel) (Nat.le_of_ble_eq_true rfl) ?_
  intro p e s m args below meth c ls hf hr hlocks hl hw
  have hx := hf.1
  have hb := hf.2.1
  have hl : lv_has ls 1 [(0, .ref (E.1 (231)))] := hl
  refine lv_aload_n hx hb dX7_play_0 rfl (lv_at hl 0 rfl) ?_
  refine c_v hw (run_V (As := []) (rest := []) (np := 0) hf hw (k_X7_tryOrders l E _    hch) ⟨gl_V q938 q939 q940 q2 q941, by decide +kernel⟩ ⟨rfl, rfl, Nat.le_of_ble_eq_true rfl, Nat.le_of_ble_eq_true rfl⟩ (by decide) (c_O E _) rfl rfl hl.1 rfl (Nat.le_of_ble_eq_true rfl) dX7_play_1 ⟨Nat.zero_le _, Nat.zero_le _⟩) (fun H locs hw => ?_)
  refine lv_aload_n hx hb dX7_play_4 rfl (lv_at hl 0 rfl) ?_
  refine g_f hw hf (by decide) (c_O E _) rfl inlX7 8 (by decide) rfl q936 rfl dX7_play_5 ?_
  refine lv_if_eq (tgt := 14) hx hb dX7_play_8 (by decide) (fun c1 => ?_) (fun c1 => ?_)
  · refine lv_aload_n hx hb dX7_play_14 rfl (lv_at hl 0 rfl) ?_
    refine g_f hw hf (by decide) (c_O E _) rfl inlX7 2 (by decide) rfl q20 rfl dX7_play_15 ?_
    refine lv_aload_n hx hb dX7_play_18 rfl (lv_at hl 0 rfl) ?_
    refine g_f hw hf (by decide) (c_O E _) rfl inlX7 0 (by decide) rfl q15 rfl dX7_play_19 ?_
    refine c_v hw (run_V (As := [.ref (E.1 (iS 0))]) (rest := []) (np := 1) hf hw (k_X0_record l E _    (by rw [(fr_X7_tryOrders μ ⟨rfl, fun _ _ => rfl⟩).1]; exact hK)) ⟨gl_V q104 q105 q106 q19 q107, by decide +kernel⟩ ⟨rfl, rfl, Nat.le_of_ble_eq_true rfl, Nat.le_of_ble_eq_true rfl⟩ (by decide) (c_Hi E _) rfl rfl hl.1 rfl (Nat.le_of_ble_eq_true rfl) dX7_play_22 ⟨Nat.zero_le _, Nat.zero_le _⟩) (fun H locs hw => ?_)
    refine lv_aload_n hx hb dX7_play_25 rfl (lv_at hl 0 rfl) ?_
    refine g_f hw hf (by decide) (c_O E _) rfl inlX7 0 (by decide) rfl q15 rfl dX7_play_26 ?_
    refine lv_aload_n hx hb dX7_play_29 rfl (lv_at hl 0 rfl) ?_
    refine g_f hw hf (by decide) (c_O E _) rfl inlX7 1 (by decide) rfl q16 rfl dX7_play_30 ?_
    refine c_v hw (run_V (As := [.ref (E.1 (iS 1))]) (rest := []) (np := 1) hf hw (k_X4_copy l E _ (by decide) (by decide)  (by decide) ) ⟨gl_V q944 q114 q115 q14 q116, by decide +kernel⟩ ⟨rfl, rfl, Nat.le_of_ble_eq_true rfl, Nat.le_of_ble_eq_true rfl⟩ (lt_iS (by decide)) (c_iS E _ (by decide)) rfl rfl hl.1 rfl (Nat.le_of_ble_eq_true rfl) dX7_play_33 ⟨Nat.zero_le _, Nat.zero_le _⟩) (fun H locs hw => ?_)
    refine lv_aload_n hx hb dX7_play_36 rfl (lv_at hl 0 rfl) ?_
    refine g_f hw hf (by decide) (c_O E _) rfl inlX7 9 (by decide) rfl q942 rfl dX7_play_37 ?_
    exact e_i hf hr hlocks hw rfl ((if_pos c1).trans rfl) dX7_play_40
  · refine lv_ldc hx hb hf.2.2.2.1 (hf.2.2.2.2 _ q162) dX7_play_11 ?_
    exact e_i hf hr hlocks hw rfl ((if_neg c1).trans rfl) dX7_play_13
