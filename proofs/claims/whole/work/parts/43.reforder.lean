/-! ===== the reference: orders ===== -/
def sp_X8_does (μ : Mu)  (ch : Int32) : Int32 × Mu :=
  if (ch : Int32) = 98 then
    ((sp_X8_cuts μ  (μ.1 13 0) (μ.1 13 1) (1 : Int32)).1, (sp_X8_cuts μ  (μ.1 13 0) (μ.1 13 1) (1 : Int32)).2)
  else
    if (ch : Int32) = 109 then
      ((sp_X8_cuts μ  (μ.1 13 0) (μ.1 13 1) (0 : Int32)).1, (sp_X8_cuts μ  (μ.1 13 0) (μ.1 13 1) (0 : Int32)).2)
    else
      if (ch : Int32) = 114 then
        ((sp_X8_reads μ  (μ.1 13 0)).1, (sp_X8_reads μ  (μ.1 13 0)).2)
      else
        if (ch : Int32) = 116 then
          ((sp_X8_baths μ  (μ.1 13 0) (μ.1 13 1)).1, (sp_X8_baths μ  (μ.1 13 0) (μ.1 13 1)).2)
        else
          ((sp_X8_scans μ  ).1, (sp_X8_scans μ  ).2)
set_option maxHeartbeats 4000000 in
set_option maxRecDepth 100000 in
theorem k_X8_does (l : Launch) (E : En) (μ : Mu)  (ch : Int32) (hG : RG (μ.1 8)) (hSa : ∀ n, n < (μ.1 8 1).toNatClampNeg → RS (μ.1 8) n) : MtI l yX8_does cX8_does 2 .int ({ frames := 13, cells := 0, slots := 0, locals := 318 }) [.ref (E.1 (232)), .int (ch)] E μ (sp_X8_does μ ch) := by
  refine mt_of (by decide +kernel) (Nat.le_of_ble_eq_true rfl) ?_
  intro p e s m args below meth c ls hf hr hlocks hl hw
  have hx := hf.1
  have hb := hf.2.1
  have hl : lv_has ls 2 [(0, .ref (E.1 (232))), (1, .int (ch))] := hl
  have hI := hG.1
  refine lv_iload_n hx hb dX8_does_0 rfl (lv_at hl 1 rfl) ?_
  by_cases c1 : ch = 98
  · refine lv_lookup (off := 71) (tgt := 72) hx hb dX8_does_1 (by decide) (by rw [c1]; decide) (by decide) ?_
    refine lv_aload_n hx hb dX8_does_72 rfl (lv_at hl 0 rfl) ?_
    refine lv_aload_n hx hb dX8_does_73 rfl (lv_at hl 0 rfl) ?_
    refine g_f hw hf (by decide) (c_R E _) rfl inlX8 9 (by decide) rfl q95 rfl dX8_does_74 ?_
    refine lv_iconst (v := 0) hx hb dX8_does_77 (by decide) ?_
    refine g_a hw hf (by decide) (c_Rg E _) (vp_lit 0 2 (by decide) (by decide)) (tr_at (y := 0) (by decide) (by decide)) dX8_does_78 ?_
    refine lv_aload_n hx hb dX8_does_79 rfl (lv_at hl 0 rfl) ?_
    refine g_f hw hf (by decide) (c_R E _) rfl inlX8 9 (by decide) rfl q95 rfl dX8_does_80 ?_
    refine lv_iconst (v := 1) hx hb dX8_does_83 (by decide) ?_
    refine g_a hw hf (by decide) (c_Rg E _) (vp_lit 1 2 (by decide) (by decide)) (tr_at (y := 1) (by decide) (by decide)) dX8_does_84 ?_
    refine lv_iconst (v := 1) hx hb dX8_does_85 (by decide) ?_
    refine c_i hw (run_V (As := [.int (μ.1 13 0), .int (μ.1 13 1), .int 1]) (rest := []) (np := 3) hf hw (k_X8_cuts l E _  (μ.1 13 0) (μ.1 13 1) (1 : Int32)  hI) ⟨gl_V q488 q489 q490 q5 q491, by decide +kernel⟩ ⟨rfl, rfl, Nat.le_of_ble_eq_true rfl, Nat.le_of_ble_eq_true rfl⟩ (by decide) (c_R E _) rfl rfl hl.1 rfl (Nat.le_of_ble_eq_true rfl) dX8_does_86 ⟨Nat.zero_le _, Nat.zero_le _⟩) (fun H locs hw => ?_)
    exact e_i hf hr hlocks hw rfl ((if_pos c1).trans rfl) dX8_does_89
  · skip
    by_cases c2 : ch = 109
    · refine lv_lookup (off := 89) (tgt := 90) hx hb dX8_does_1 (by decide) (by rw [c2]; decide) (by decide) ?_
      refine lv_aload_n hx hb dX8_does_90 rfl (lv_at hl 0 rfl) ?_
      refine lv_aload_n hx hb dX8_does_91 rfl (lv_at hl 0 rfl) ?_
      refine g_f hw hf (by decide) (c_R E _) rfl inlX8 9 (by decide) rfl q95 rfl dX8_does_92 ?_
      refine lv_iconst (v := 0) hx hb dX8_does_95 (by decide) ?_
      refine g_a hw hf (by decide) (c_Rg E _) (vp_lit 0 2 (by decide) (by decide)) (tr_at (y := 0) (by decide) (by decide)) dX8_does_96 ?_
      refine lv_aload_n hx hb dX8_does_97 rfl (lv_at hl 0 rfl) ?_
      refine g_f hw hf (by decide) (c_R E _) rfl inlX8 9 (by decide) rfl q95 rfl dX8_does_98 ?_
      refine lv_iconst (v := 1) hx hb dX8_does_101 (by decide) ?_
      refine g_a hw hf (by decide) (c_Rg E _) (vp_lit 1 2 (by decide) (by decide)) (tr_at (y := 1) (by decide) (by decide)) dX8_does_102 ?_
      refine lv_iconst (v := 0) hx hb dX8_does_103 (by decide) ?_
      refine c_i hw (run_V (As := [.int (μ.1 13 0), .int (μ.1 13 1), .int 0]) (rest := []) (np := 3) hf hw (k_X8_cuts l E _  (μ.1 13 0) (μ.1 13 1) (0 : Int32)  hI) ⟨gl_V q488 q489 q490 q5 q491, by decide +kernel⟩ ⟨rfl, rfl, Nat.le_of_ble_eq_true rfl, Nat.le_of_ble_eq_true rfl⟩ (by decide) (c_R E _) rfl rfl hl.1 rfl (Nat.le_of_ble_eq_true rfl) dX8_does_104 ⟨Nat.zero_le _, Nat.zero_le _⟩) (fun H locs hw => ?_)
      exact e_i hf hr hlocks hw rfl ((if_neg c1).trans ((if_pos c2).trans rfl)) dX8_does_107
    · skip
      by_cases c3 : ch = 114
      · refine lv_lookup (off := 60) (tgt := 61) hx hb dX8_does_1 (by decide) (by rw [c3]; decide) (by decide) ?_
        refine lv_aload_n hx hb dX8_does_61 rfl (lv_at hl 0 rfl) ?_
        refine lv_aload_n hx hb dX8_does_62 rfl (lv_at hl 0 rfl) ?_
        refine g_f hw hf (by decide) (c_R E _) rfl inlX8 9 (by decide) rfl q95 rfl dX8_does_63 ?_
        refine lv_iconst (v := 0) hx hb dX8_does_66 (by decide) ?_
        refine g_a hw hf (by decide) (c_Rg E _) (vp_lit 0 2 (by decide) (by decide)) (tr_at (y := 0) (by decide) (by decide)) dX8_does_67 ?_
        refine c_i hw (run_V (As := [.int (μ.1 13 0)]) (rest := []) (np := 1) hf hw (k_X8_reads l E _  (μ.1 13 0)  hG hSa) ⟨gl_V q785 q786 q787 q5 q788, by decide +kernel⟩ ⟨rfl, rfl, Nat.le_of_ble_eq_true rfl, Nat.le_of_ble_eq_true rfl⟩ (by decide) (c_R E _) rfl rfl hl.1 rfl (Nat.le_of_ble_eq_true rfl) dX8_does_68 ⟨Nat.zero_le _, Nat.zero_le _⟩) (fun H locs hw => ?_)
        exact e_i hf hr hlocks hw rfl ((if_neg c1).trans ((if_neg c2).trans ((if_pos c3).trans rfl))) dX8_does_71
      · skip
        by_cases c4 : ch = 116
        · refine lv_lookup (off := 43) (tgt := 44) hx hb dX8_does_1 (by decide) (by rw [c4]; decide) (by decide) ?_
          refine lv_aload_n hx hb dX8_does_44 rfl (lv_at hl 0 rfl) ?_
          refine lv_aload_n hx hb dX8_does_45 rfl (lv_at hl 0 rfl) ?_
          refine g_f hw hf (by decide) (c_R E _) rfl inlX8 9 (by decide) rfl q95 rfl dX8_does_46 ?_
          refine lv_iconst (v := 0) hx hb dX8_does_49 (by decide) ?_
          refine g_a hw hf (by decide) (c_Rg E _) (vp_lit 0 2 (by decide) (by decide)) (tr_at (y := 0) (by decide) (by decide)) dX8_does_50 ?_
          refine lv_aload_n hx hb dX8_does_51 rfl (lv_at hl 0 rfl) ?_
          refine g_f hw hf (by decide) (c_R E _) rfl inlX8 9 (by decide) rfl q95 rfl dX8_does_52 ?_
          refine lv_iconst (v := 1) hx hb dX8_does_55 (by decide) ?_
          refine g_a hw hf (by decide) (c_Rg E _) (vp_lit 1 2 (by decide) (by decide)) (tr_at (y := 1) (by decide) (by decide)) dX8_does_56 ?_
          refine c_i hw (run_V (As := [.int (μ.1 13 0), .int (μ.1 13 1)]) (rest := []) (np := 2) hf hw (k_X8_baths l E _  (μ.1 13 0) (μ.1 13 1)  hI) ⟨gl_V q412 q413 q414 q5 q415, by decide +kernel⟩ ⟨rfl, rfl, Nat.le_of_ble_eq_true rfl, Nat.le_of_ble_eq_true rfl⟩ (by decide) (c_R E _) rfl rfl hl.1 rfl (Nat.le_of_ble_eq_true rfl) dX8_does_57 ⟨Nat.zero_le _, Nat.zero_le _⟩) (fun H locs hw => ?_)
          exact e_i hf hr hlocks hw rfl ((if_neg c1).trans ((if_neg c2).trans ((if_neg c3).trans ((if_pos c4).trans rfl)))) dX8_does_60
        · skip
          refine lv_lookup (off := 107) (tgt := 108) hx hb dX8_does_1 (by decide) ((lv_osw c1 (by decide)).trans ((lv_osw c2 (by decide)).trans ((lv_osw c3 (by decide)).trans ((lv_osw c4 (by decide)).trans rfl)))) (by decide) ?_
          refine lv_aload_n hx hb dX8_does_108 rfl (lv_at hl 0 rfl) ?_
          refine c_i hw (run_V (As := []) (rest := []) (np := 0) hf hw (k_X8_scans l E _    hG hSa) ⟨gl_V q806 q807 q808 q5 q809, by decide +kernel⟩ ⟨rfl, rfl, Nat.le_of_ble_eq_true rfl, Nat.le_of_ble_eq_true rfl⟩ (by decide) (c_R E _) rfl rfl hl.1 rfl (Nat.le_of_ble_eq_true rfl) dX8_does_109 ⟨Nat.zero_le _, Nat.zero_le _⟩) (fun H locs hw => ?_)
          exact e_i hf hr hlocks hw rfl ((if_neg c1).trans ((if_neg c2).trans ((if_neg c3).trans ((if_neg c4).trans rfl)))) dX8_does_112
