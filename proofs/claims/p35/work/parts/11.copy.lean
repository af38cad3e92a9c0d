def sp_X3_copy (μ : Mu) (j : Nat) (n : Nat) (j2 : Nat) (n2 : Nat)  : Mu :=
  pC (pC (pC (pM (pM (pM (pM (pM (pM (pM (pM (pM (pM (pM (pM μ j (sF n 0) (μ.1 j2 (sF n2 0))) j (sF n 1) (μ.1 j2 (sF n2 1))) j (sF n 2) (μ.1 j2 (sF n2 2))) j (sF n 3) (μ.1 j2 (sF n2 3))) j (sF n 4) (μ.1 j2 (sF n2 4))) j (sF n 5) (μ.1 j2 (sF n2 5))) j (sF n 6) (μ.1 j2 (sF n2 6))) j (sF n 7) (μ.1 j2 (sF n2 7))) j (sF n 8) (μ.1 j2 (sF n2 8))) j (sF n 9) (μ.1 j2 (sF n2 9))) j (sF n 10) (μ.1 j2 (sF n2 10))) j (sF n 11) (μ.1 j2 (sF n2 11))) j (sF n 12) j2 (sF n2 12) 4) j (sF n 16) j2 (sF n2 16) 3) j (sF n 19) j2 (sF n2 19) 9
set_option maxHeartbeats 4000000 in
set_option maxRecDepth 100000 in
theorem k_X3_copy (l : Launch) (E : En) (μ : Mu) {j : Nat} (hj : j < 6) {n : Nat} (hn : n < 6) {j2 : Nat} (hj2 : j2 < 6) {n2 : Nat} (hn2 : n2 < 6)  (hne : j2 ≠ j) : MtV l yX3_copy cX3_copy 2 ({ frames := 1, cells := 0, slots := 0, locals := 40 }) [.ref (E.1 (iN j n)), .ref (E.1 (iN j2 n2))] E μ (sp_X3_copy μ j n j2 n2) := by
  refine mt_of (by decide +kernel) (Nat.le_of_ble_eq_true rfl) ?_
  intro p e s m args below meth c ls hf hr hlocks hl hw
  have hx := hf.1
  have hb := hf.2.1
  have hl : lv_has ls 2 [(0, .ref (E.1 (iN j n))), (1, .ref (E.1 (iN j2 n2)))] := hl
  refine lv_aload_n hx hb dX3_copy_0 rfl (lv_at hl 0 rfl) ?_
  refine lv_aload_n hx hb dX3_copy_1 rfl (lv_at hl 1 rfl) ?_
  refine g_f hw hf (lt_iN hj2 hn2) (c_iN E _ hj2 hn2) rfl inlX3 0 (by decide) rfl q414 rfl dX3_copy_2 ?_
  refine p_f hw hf (lt_iN hj hn) (c_iN E _ hj hn) rfl inlX3 tyX3_ok nmX3 0 (by decide) rfl q414 rfl rfl rfl (Nat.le_of_ble_eq_true rfl) (s_N_0 E _ hj hn _) dX3_copy_5 (fun H locs hw => ?_)
  refine lv_aload_n hx hb dX3_copy_8 rfl (lv_at hl 0 rfl) ?_
  refine lv_aload_n hx hb dX3_copy_9 rfl (lv_at hl 1 rfl) ?_
  refine g_f hw hf (lt_iN hj2 hn2) (c_iN E _ hj2 hn2) rfl inlX3 1 (by decide) rfl q228 (congrArg (fun z => some (Value.int z)) (show _ = μ.1 j2 (sF n2 1) from (by first | (simp [pM, pJ, upM, upJ, sF, tN, tD, tR, hne]; done) | (simp (disch := (first | omega | (simp only [tN, tD, tR, sF]; omega))) only [pM, pJ, upM_s, upM_k, upM_c, upJ_s, upJ_k, upJ_c])))) dX3_copy_10 ?_
  refine p_f hw hf (lt_iN hj hn) (c_iN E _ hj hn) rfl inlX3 tyX3_ok nmX3 1 (by decide) rfl q228 rfl rfl rfl (Nat.le_of_ble_eq_true rfl) (s_N_1 E _ hj hn _) dX3_copy_13 (fun H locs hw => ?_)
  refine lv_aload_n hx hb dX3_copy_16 rfl (lv_at hl 0 rfl) ?_
  refine lv_aload_n hx hb dX3_copy_17 rfl (lv_at hl 1 rfl) ?_
  refine g_f hw hf (lt_iN hj2 hn2) (c_iN E _ hj2 hn2) rfl inlX3 2 (by decide) rfl q415 (congrArg (fun z => some (Value.int z)) (show _ = μ.1 j2 (sF n2 2) from (by first | (simp [pM, pJ, upM, upJ, sF, tN, tD, tR, hne]; done) | (simp (disch := (first | omega | (simp only [tN, tD, tR, sF]; omega))) only [pM, pJ, upM_s, upM_k, upM_c, upJ_s, upJ_k, upJ_c])))) dX3_copy_18 ?_
  refine p_f hw hf (lt_iN hj hn) (c_iN E _ hj hn) rfl inlX3 tyX3_ok nmX3 2 (by decide) rfl q415 rfl rfl rfl (Nat.le_of_ble_eq_true rfl) (s_N_2 E _ hj hn _) dX3_copy_21 (fun H locs hw => ?_)
  refine lv_aload_n hx hb dX3_copy_24 rfl (lv_at hl 0 rfl) ?_
  refine lv_aload_n hx hb dX3_copy_25 rfl (lv_at hl 1 rfl) ?_
  refine g_f hw hf (lt_iN hj2 hn2) (c_iN E _ hj2 hn2) rfl inlX3 3 (by decide) rfl q416 (congrArg (fun z => some (Value.int z)) (show _ = μ.1 j2 (sF n2 3) from (by first | (simp [pM, pJ, upM, upJ, sF, tN, tD, tR, hne]; done) | (simp (disch := (first | omega | (simp only [tN, tD, tR, sF]; omega))) only [pM, pJ, upM_s, upM_k, upM_c, upJ_s, upJ_k, upJ_c])))) dX3_copy_26 ?_
  refine p_f hw hf (lt_iN hj hn) (c_iN E _ hj hn) rfl inlX3 tyX3_ok nmX3 3 (by decide) rfl q416 rfl rfl rfl (Nat.le_of_ble_eq_true rfl) (s_N_3 E _ hj hn _) dX3_copy_29 (fun H locs hw => ?_)
  refine lv_aload_n hx hb dX3_copy_32 rfl (lv_at hl 0 rfl) ?_
  refine lv_aload_n hx hb dX3_copy_33 rfl (lv_at hl 1 rfl) ?_
  refine g_f hw hf (lt_iN hj2 hn2) (c_iN E _ hj2 hn2) rfl inlX3 4 (by decide) rfl q417 (congrArg (fun z => some (Value.int z)) (show _ = μ.1 j2 (sF n2 4) from (by first | (simp [pM, pJ, upM, upJ, sF, tN, tD, tR, hne]; done) | (simp (disch := (first | omega | (simp only [tN, tD, tR, sF]; omega))) only [pM, pJ, upM_s, upM_k, upM_c, upJ_s, upJ_k, upJ_c])))) dX3_copy_34 ?_
  refine p_f hw hf (lt_iN hj hn) (c_iN E _ hj hn) rfl inlX3 tyX3_ok nmX3 4 (by decide) rfl q417 rfl rfl rfl (Nat.le_of_ble_eq_true rfl) (s_N_4 E _ hj hn _) dX3_copy_37 (fun H locs hw => ?_)
  refine lv_aload_n hx hb dX3_copy_40 rfl (lv_at hl 0 rfl) ?_
  refine lv_aload_n hx hb dX3_copy_41 rfl (lv_at hl 1 rfl) ?_
  refine g_f hw hf (lt_iN hj2 hn2) (c_iN E _ hj2 hn2) rfl inlX3 5 (by decide) rfl q418 (congrArg (fun z => some (Value.int z)) (show _ = μ.1 j2 (sF n2 5) from (by first | (simp [pM, pJ, upM, upJ, sF, tN, tD, tR, hne]; done) | (simp (disch := (first | omega | (simp only [tN, tD, tR, sF]; omega))) only [pM, pJ, upM_s, upM_k, upM_c, upJ_s, upJ_k, upJ_c])))) dX3_copy_42 ?_
  refine p_f hw hf (lt_iN hj hn) (c_iN E _ hj hn) rfl inlX3 tyX3_ok nmX3 5 (by decide) rfl q418 rfl rfl rfl (Nat.le_of_ble_eq_true rfl) (s_N_5 E _ hj hn _) dX3_copy_45 (fun H locs hw => ?_)
  refine lv_aload_n hx hb dX3_copy_48 rfl (lv_at hl 0 rfl) ?_
  refine lv_aload_n hx hb dX3_copy_49 rfl (lv_at hl 1 rfl) ?_
  refine g_f hw hf (lt_iN hj2 hn2) (c_iN E _ hj2 hn2) rfl inlX3 6 (by decide) rfl q69 (congrArg (fun z => some (Value.int z)) (show _ = μ.1 j2 (sF n2 6) from (by first | (simp [pM, pJ, upM, upJ, sF, tN, tD, tR, hne]; done) | (simp (disch := (first | omega | (simp only [tN, tD, tR, sF]; omega))) only [pM, pJ, upM_s, upM_k, upM_c, upJ_s, upJ_k, upJ_c])))) dX3_copy_50 ?_
  refine p_f hw hf (lt_iN hj hn) (c_iN E _ hj hn) rfl inlX3 tyX3_ok nmX3 6 (by decide) rfl q69 rfl rfl rfl (Nat.le_of_ble_eq_true rfl) (s_N_6 E _ hj hn _) dX3_copy_53 (fun H locs hw => ?_)
  refine lv_aload_n hx hb dX3_copy_56 rfl (lv_at hl 0 rfl) ?_
  refine lv_aload_n hx hb dX3_copy_57 rfl (lv_at hl 1 rfl) ?_
  refine g_f hw hf (lt_iN hj2 hn2) (c_iN E _ hj2 hn2) rfl inlX3 7 (by decide) rfl q419 (congrArg (fun z => some (Value.int z)) (show _ = μ.1 j2 (sF n2 7) from (by first | (simp [pM, pJ, upM, upJ, sF, tN, tD, tR, hne]; done) | (simp (disch := (first | omega | (simp only [tN, tD, tR, sF]; omega))) only [pM, pJ, upM_s, upM_k, upM_c, upJ_s, upJ_k, upJ_c])))) dX3_copy_58 ?_
  refine p_f hw hf (lt_iN hj hn) (c_iN E _ hj hn) rfl inlX3 tyX3_ok nmX3 7 (by decide) rfl q419 rfl rfl rfl (Nat.le_of_ble_eq_true rfl) (s_N_7 E _ hj hn _) dX3_copy_61 (fun H locs hw => ?_)
  refine lv_aload_n hx hb dX3_copy_64 rfl (lv_at hl 0 rfl) ?_
  refine lv_aload_n hx hb dX3_copy_65 rfl (lv_at hl 1 rfl) ?_
  refine g_f hw hf (lt_iN hj2 hn2) (c_iN E _ hj2 hn2) rfl inlX3 8 (by decide) rfl q420 (congrArg (fun z => some (Value.int z)) (show _ = μ.1 j2 (sF n2 8) from (by first | (simp [pM, pJ, upM, upJ, sF, tN, tD, tR, hne]; done) | (simp (disch := (first | omega | (simp only [tN, tD, tR, sF]; omega))) only [pM, pJ, upM_s, upM_k, upM_c, upJ_s, upJ_k, upJ_c])))) dX3_copy_66 ?_
  refine p_f hw hf (lt_iN hj hn) (c_iN E _ hj hn) rfl inlX3 tyX3_ok nmX3 8 (by decide) rfl q420 rfl rfl rfl (Nat.le_of_ble_eq_true rfl) (s_N_8 E _ hj hn _) dX3_copy_69 (fun H locs hw => ?_)
  refine lv_aload_n hx hb dX3_copy_72 rfl (lv_at hl 0 rfl) ?_
  refine lv_aload_n hx hb dX3_copy_73 rfl (lv_at hl 1 rfl) ?_
  refine g_f hw hf (lt_iN hj2 hn2) (c_iN E _ hj2 hn2) rfl inlX3 9 (by decide) rfl q421 (congrArg (fun z => some (Value.int z)) (show _ = μ.1 j2 (sF n2 9) from (by first | (simp [pM, pJ, upM, upJ, sF, tN, tD, tR, hne]; done) | (simp (disch := (first | omega | (simp only [tN, tD, tR, sF]; omega))) only [pM, pJ, upM_s, upM_k, upM_c, upJ_s, upJ_k, upJ_c])))) dX3_copy_74 ?_
  refine p_f hw hf (lt_iN hj hn) (c_iN E _ hj hn) rfl inlX3 tyX3_ok nmX3 9 (by decide) rfl q421 rfl rfl rfl (Nat.le_of_ble_eq_true rfl) (s_N_9 E _ hj hn _) dX3_copy_77 (fun H locs hw => ?_)
  refine lv_aload_n hx hb dX3_copy_80 rfl (lv_at hl 0 rfl) ?_
  refine lv_aload_n hx hb dX3_copy_81 rfl (lv_at hl 1 rfl) ?_
  refine g_f hw hf (lt_iN hj2 hn2) (c_iN E _ hj2 hn2) rfl inlX3 10 (by decide) rfl q422 (congrArg (fun z => some (Value.int z)) (show _ = μ.1 j2 (sF n2 10) from (by first | (simp [pM, pJ, upM, upJ, sF, tN, tD, tR, hne]; done) | (simp (disch := (first | omega | (simp only [tN, tD, tR, sF]; omega))) only [pM, pJ, upM_s, upM_k, upM_c, upJ_s, upJ_k, upJ_c])))) dX3_copy_82 ?_
  refine p_f hw hf (lt_iN hj hn) (c_iN E _ hj hn) rfl inlX3 tyX3_ok nmX3 10 (by decide) rfl q422 rfl rfl rfl (Nat.le_of_ble_eq_true rfl) (s_N_10 E _ hj hn _) dX3_copy_85 (fun H locs hw => ?_)
  refine lv_aload_n hx hb dX3_copy_88 rfl (lv_at hl 0 rfl) ?_
  refine lv_aload_n hx hb dX3_copy_89 rfl (lv_at hl 1 rfl) ?_
  refine g_f hw hf (lt_iN hj2 hn2) (c_iN E _ hj2 hn2) rfl inlX3 11 (by decide) rfl q423 (congrArg (fun z => some (Value.int z)) (show _ = μ.1 j2 (sF n2 11) from (by first | (simp [pM, pJ, upM, upJ, sF, tN, tD, tR, hne]; done) | (simp (disch := (first | omega | (simp only [tN, tD, tR, sF]; omega))) only [pM, pJ, upM_s, upM_k, upM_c, upJ_s, upJ_k, upJ_c])))) dX3_copy_90 ?_
  refine p_f hw hf (lt_iN hj hn) (c_iN E _ hj hn) rfl inlX3 tyX3_ok nmX3 11 (by decide) rfl q423 rfl rfl rfl (Nat.le_of_ble_eq_true rfl) (s_N_11 E _ hj hn _) dX3_copy_93 (fun H locs hw => ?_)
  refine lv_aload_n hx hb dX3_copy_96 rfl (lv_at hl 1 rfl) ?_
  refine g_f hw hf (lt_iN hj2 hn2) (c_iN E _ hj2 hn2) rfl inlX3 12 (by decide) rfl q70 rfl dX3_copy_97 ?_
  refine lv_iconst (v := 0) hx hb dX3_copy_100 (by decide) ?_
  refine lv_aload_n hx hb dX3_copy_101 rfl (lv_at hl 0 rfl) ?_
  refine g_f hw hf (lt_iN hj hn) (c_iN E _ hj hn) rfl inlX3 12 (by decide) rfl q70 rfl dX3_copy_102 ?_
  refine lv_iconst (v := 0) hx hb dX3_copy_105 (by decide) ?_
  refine lv_iconst (v := 4) hx hb dX3_copy_106 (by decide) ?_
  refine a_cp hw hf hl.1 (lt_iNl hj2 hn2) (tb_iNl _ hj2 _ hn2) (lt_iNl hj hn) (tb_iNl _ hj _ hn) q424 q58 q59 q60 (by decide) (Nat.le_of_ble_eq_true rfl) (Nat.le_of_ble_eq_true rfl) dX3_copy_107 (fun H locs hw => ?_)
  refine lv_aload_n hx hb dX3_copy_110 rfl (lv_at hl 1 rfl) ?_
  refine g_f hw hf (lt_iN hj2 hn2) (c_iN E _ hj2 hn2) rfl inlX3 13 (by decide) rfl q71 rfl dX3_copy_111 ?_
  refine lv_iconst (v := 0) hx hb dX3_copy_114 (by decide) ?_
  refine lv_aload_n hx hb dX3_copy_115 rfl (lv_at hl 0 rfl) ?_
  refine g_f hw hf (lt_iN hj hn) (c_iN E _ hj hn) rfl inlX3 13 (by decide) rfl q71 rfl dX3_copy_116 ?_
  refine lv_iconst (v := 0) hx hb dX3_copy_119 (by decide) ?_
  refine lv_iconst (v := 3) hx hb dX3_copy_120 (by decide) ?_
  refine a_cp hw hf hl.1 (lt_iNs hj2 hn2) (tb_iNs _ hj2 _ hn2) (lt_iNs hj hn) (tb_iNs _ hj _ hn) q424 q58 q59 q60 (by decide) (Nat.le_of_ble_eq_true rfl) (Nat.le_of_ble_eq_true rfl) dX3_copy_121 (fun H locs hw => ?_)
  refine lv_aload_n hx hb dX3_copy_124 rfl (lv_at hl 1 rfl) ?_
  refine g_f hw hf (lt_iN hj2 hn2) (c_iN E _ hj2 hn2) rfl inlX3 14 (by decide) rfl q72 rfl dX3_copy_125 ?_
  refine lv_iconst (v := 0) hx hb dX3_copy_128 (by decide) ?_
  refine lv_aload_n hx hb dX3_copy_129 rfl (lv_at hl 0 rfl) ?_
  refine g_f hw hf (lt_iN hj hn) (c_iN E _ hj hn) rfl inlX3 14 (by decide) rfl q72 rfl dX3_copy_130 ?_
  refine lv_iconst (v := 0) hx hb dX3_copy_133 (by decide) ?_
  refine lv_bipush (v := 9) hx hb dX3_copy_134 (by decide) ?_
  refine a_cp hw hf hl.1 (lt_iNr hj2 hn2) (tb_iNr _ hj2 _ hn2) (lt_iNr hj hn) (tb_iNr _ hj _ hn) q424 q58 q59 q60 (by decide) (Nat.le_of_ble_eq_true rfl) (Nat.le_of_ble_eq_true rfl) dX3_copy_136 (fun H locs hw => ?_)
  exact e_v hf hr hlocks hw rfl dX3_copy_139
