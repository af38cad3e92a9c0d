/-! ===== State.copy and the history ===== -/
def sp_X4_copy (μ : Mu) (j : Nat) (j2 : Nat)  : Mu :=
  pC (sp_X3_copy (sp_X3_copy (sp_X3_copy (sp_X3_copy (sp_X3_copy (sp_X3_copy (sp_X5_copy (sp_X5_copy (sp_X5_copy (pM (pM (pM μ j 0 (μ.1 j2 0)) j 1 (μ.1 j2 1)) j 2 (μ.1 j2 2)) j 0 j2 0 ) j 1 j2 1 ) j 2 j2 2 ) j 0 j2 0 ) j 1 j2 1 ) j 2 j2 2 ) j 3 j2 3 ) j 4 j2 4 ) j 5 j2 5 ) j 3 j2 3 7
set_option maxHeartbeats 4000000 in
set_option maxRecDepth 100000 in
theorem k_X4_copy (l : Launch) (E : En) (μ : Mu) {j : Nat} (hj : j < 6) {j2 : Nat} (hj2 : j2 < 6)  (hne : j2 ≠ j) : MtV l yX4_copy cX4_copy 3 ({ frames := 2, cells := 0, slots := 0, locals := 61 }) [.ref (E.1 (iS j)), .ref (E.1 (iS j2))] E μ (sp_X4_copy μ j j2) := by
  refine mt_of (by decide +kernel) (Nat.le_of_ble_eq_true rfl) ?_
  intro p e s m args below meth c ls hf hr hlocks hl hw
  have hx := hf.1
  have hb := hf.2.1
  have hl : lv_has ls 3 [(0, .ref (E.1 (iS j))), (1, .ref (E.1 (iS j2)))] := hl
  refine lv_aload_n hx hb dX4_copy_0 rfl (lv_at hl 0 rfl) ?_
  refine lv_aload_n hx hb dX4_copy_1 rfl (lv_at hl 1 rfl) ?_
  refine g_f hw hf (lt_iS hj2) (c_iS E _ hj2) rfl inlX4 0 (by decide) rfl q125 rfl dX4_copy_2 ?_
  refine p_f hw hf (lt_iS hj) (c_iS E _ hj) rfl inlX4 tyX4_ok nmX4 0 (by decide) rfl q125 rfl rfl rfl (Nat.le_of_ble_eq_true rfl) (s_S_0 E _ hj _) dX4_copy_5 (fun H locs hw => ?_)
  refine lv_aload_n hx hb dX4_copy_8 rfl (lv_at hl 0 rfl) ?_
  refine lv_aload_n hx hb dX4_copy_9 rfl (lv_at hl 1 rfl) ?_
  refine g_f hw hf (lt_iS hj2) (c_iS E _ hj2) rfl inlX4 1 (by decide) rfl q138 (congrArg (fun z => some (Value.int z)) (show _ = μ.1 j2 1 from (by first | (simp [pM, pJ, upM, upJ, sF, tN, tD, tR, hne]; done) | (simp (disch := (first | omega | (simp only [tN, tD, tR, sF]; omega))) only [pM, pJ, upM_s, upM_k, upM_c, upJ_s, upJ_k, upJ_c])))) dX4_copy_10 ?_
  refine p_f hw hf (lt_iS hj) (c_iS E _ hj) rfl inlX4 tyX4_ok nmX4 1 (by decide) rfl q138 rfl rfl rfl (Nat.le_of_ble_eq_true rfl) (s_S_1 E _ hj _) dX4_copy_13 (fun H locs hw => ?_)
  refine lv_aload_n hx hb dX4_copy_16 rfl (lv_at hl 0 rfl) ?_
  refine lv_aload_n hx hb dX4_copy_17 rfl (lv_at hl 1 rfl) ?_
  refine g_f hw hf (lt_iS hj2) (c_iS E _ hj2) rfl inlX4 2 (by decide) rfl q47 (congrArg (fun z => some (Value.int z)) (show _ = μ.1 j2 2 from (by first | (simp [pM, pJ, upM, upJ, sF, tN, tD, tR, hne]; done) | (simp (disch := (first | omega | (simp only [tN, tD, tR, sF]; omega))) only [pM, pJ, upM_s, upM_k, upM_c, upJ_s, upJ_k, upJ_c])))) dX4_copy_18 ?_
  refine p_f hw hf (lt_iS hj) (c_iS E _ hj) rfl inlX4 tyX4_ok nmX4 2 (by decide) rfl q47 rfl rfl rfl (Nat.le_of_ble_eq_true rfl) (s_S_2 E _ hj _) dX4_copy_21 (fun H locs hw => ?_)
  refine lv_iconst (v := 0) hx hb dX4_copy_24 (by decide) ?_
  refine lv_istore_n (lv' := [(2, .int 0), (0, .ref (E.1 (iS j))), (1, .ref (E.1 (iS j2)))]) hx hb dX4_copy_25 rfl hl (by decide) rfl (fun ls hl => ?_)
  refine lv_iload_n hx hb dX4_copy_26 rfl (lv_at hl 0 rfl) ?_
  refine lv_iconst (v := 3) hx hb dX4_copy_27 (by decide) ?_
  refine lv_icmp_ge (tgt := 52) hx hb dX4_copy_28 (by decide) (fun c => absurd c (by decide)) (fun _ => ?_)
  refine lv_aload_n hx hb dX4_copy_31 rfl (lv_at hl 1 rfl) ?_
  refine g_f hw hf (lt_iS hj) (c_iS E _ hj) rfl inlX4 3 (by decide) rfl q49 rfl dX4_copy_32 ?_
  refine lv_iload_n hx hb dX4_copy_35 rfl (lv_at hl 0 rfl) ?_
  refine g_q hw hf (lt_iTs hj) (c_iTs E _ hj) (t0 := 2) rfl (vp_lit 0 3 (by decide) (by decide)) (rf_T (y := 0) (by decide) (by decide)) dX4_copy_36 ?_
  refine lv_aload_n hx hb dX4_copy_37 rfl (lv_at hl 2 rfl) ?_
  refine g_f hw hf (lt_iS hj2) (c_iS E _ hj2) rfl inlX4 3 (by decide) rfl q49 rfl dX4_copy_38 ?_
  refine lv_iload_n hx hb dX4_copy_41 rfl (lv_at hl 0 rfl) ?_
  refine g_q hw hf (lt_iTs hj2) (c_iTs E _ hj2) (t0 := 2) rfl (vp_lit 0 3 (by decide) (by decide)) (rf_T (y := 0) (by decide) (by decide)) dX4_copy_42 ?_
  refine c_v hw (run_V (As := [.ref (E.1 (iT j2 0))]) (rest := []) (np := 1) hf hw (k_X5_copy l E _ hj (by decide) hj2 (by decide)  hne ) ⟨gl_V q405 q406 q407 q54 q408, by decide +kernel⟩ ⟨rfl, rfl, Nat.le_of_ble_eq_true rfl, Nat.le_of_ble_eq_true rfl⟩ (lt_iT hj (by decide)) (c_iT E _ hj (by decide)) rfl rfl hl.1 rfl (Nat.le_of_ble_eq_true rfl) dX4_copy_43 ⟨Nat.zero_le _, Nat.zero_le _⟩) (fun H locs hw => ?_)
  refine lv_iinc (v := 1) (lv' := [(2, .int 1), (0, .ref (E.1 (iS j))), (1, .ref (E.1 (iS j2)))]) hx hb dX4_copy_46 hl (k := 0) rfl (by decide) (by decide) rfl (fun ls hl => ?_)
  refine lv_goto (tgt := 26) hx hb dX4_copy_49 (by decide) ?_
  refine lv_iload_n hx hb dX4_copy_26 rfl (lv_at hl 0 rfl) ?_
  refine lv_iconst (v := 3) hx hb dX4_copy_27 (by decide) ?_
  refine lv_icmp_ge (tgt := 52) hx hb dX4_copy_28 (by decide) (fun c => absurd c (by decide)) (fun _ => ?_)
  refine lv_aload_n hx hb dX4_copy_31 rfl (lv_at hl 1 rfl) ?_
  refine g_f hw hf (lt_iS hj) (c_iS E _ hj) rfl inlX4 3 (by decide) rfl q49 rfl dX4_copy_32 ?_
  refine lv_iload_n hx hb dX4_copy_35 rfl (lv_at hl 0 rfl) ?_
  refine g_q hw hf (lt_iTs hj) (c_iTs E _ hj) (t0 := 2) rfl (vp_lit 1 3 (by decide) (by decide)) (rf_T (y := 1) (by decide) (by decide)) dX4_copy_36 ?_
  refine lv_aload_n hx hb dX4_copy_37 rfl (lv_at hl 2 rfl) ?_
  refine g_f hw hf (lt_iS hj2) (c_iS E _ hj2) rfl inlX4 3 (by decide) rfl q49 rfl dX4_copy_38 ?_
  refine lv_iload_n hx hb dX4_copy_41 rfl (lv_at hl 0 rfl) ?_
  refine g_q hw hf (lt_iTs hj2) (c_iTs E _ hj2) (t0 := 2) rfl (vp_lit 1 3 (by decide) (by decide)) (rf_T (y := 1) (by decide) (by decide)) dX4_copy_42 ?_
  refine c_v hw (run_V (As := [.ref (E.1 (iT j2 1))]) (rest := []) (np := 1) hf hw (k_X5_copy l E _ hj (by decide) hj2 (by decide)  hne ) ⟨gl_V q405 q406 q407 q54 q408, by decide +kernel⟩ ⟨rfl, rfl, Nat.le_of_ble_eq_true rfl, Nat.le_of_ble_eq_true rfl⟩ (lt_iT hj (by decide)) (c_iT E _ hj (by decide)) rfl rfl hl.1 rfl (Nat.le_of_ble_eq_true rfl) dX4_copy_43 ⟨Nat.zero_le _, Nat.zero_le _⟩) (fun H locs hw => ?_)
  refine lv_iinc (v := 2) (lv' := [(2, .int 2), (0, .ref (E.1 (iS j))), (1, .ref (E.1 (iS j2)))]) hx hb dX4_copy_46 hl (k := 0) rfl (by decide) (by decide) rfl (fun ls hl => ?_)
  refine lv_goto (tgt := 26) hx hb dX4_copy_49 (by decide) ?_
  refine lv_iload_n hx hb dX4_copy_26 rfl (lv_at hl 0 rfl) ?_
  refine lv_iconst (v := 3) hx hb dX4_copy_27 (by decide) ?_
  refine lv_icmp_ge (tgt := 52) hx hb dX4_copy_28 (by decide) (fun c => absurd c (by decide)) (fun _ => ?_)
  refine lv_aload_n hx hb dX4_copy_31 rfl (lv_at hl 1 rfl) ?_
  refine g_f hw hf (lt_iS hj) (c_iS E _ hj) rfl inlX4 3 (by decide) rfl q49 rfl dX4_copy_32 ?_
  refine lv_iload_n hx hb dX4_copy_35 rfl (lv_at hl 0 rfl) ?_
  refine g_q hw hf (lt_iTs hj) (c_iTs E _ hj) (t0 := 2) rfl (vp_lit 2 3 (by decide) (by decide)) (rf_T (y := 2) (by decide) (by decide)) dX4_copy_36 ?_
  refine lv_aload_n hx hb dX4_copy_37 rfl (lv_at hl 2 rfl) ?_
  refine g_f hw hf (lt_iS hj2) (c_iS E _ hj2) rfl inlX4 3 (by decide) rfl q49 rfl dX4_copy_38 ?_
  refine lv_iload_n hx hb dX4_copy_41 rfl (lv_at hl 0 rfl) ?_
  refine g_q hw hf (lt_iTs hj2) (c_iTs E _ hj2) (t0 := 2) rfl (vp_lit 2 3 (by decide) (by decide)) (rf_T (y := 2) (by decide) (by decide)) dX4_copy_42 ?_
  refine c_v hw (run_V (As := [.ref (E.1 (iT j2 2))]) (rest := []) (np := 1) hf hw (k_X5_copy l E _ hj (by decide) hj2 (by decide)  hne ) ⟨gl_V q405 q406 q407 q54 q408, by decide +kernel⟩ ⟨rfl, rfl, Nat.le_of_ble_eq_true rfl, Nat.le_of_ble_eq_true rfl⟩ (lt_iT hj (by decide)) (c_iT E _ hj (by decide)) rfl rfl hl.1 rfl (Nat.le_of_ble_eq_true rfl) dX4_copy_43 ⟨Nat.zero_le _, Nat.zero_le _⟩) (fun H locs hw => ?_)
  refine lv_iinc (v := 3) (lv' := [(2, .int 3), (0, .ref (E.1 (iS j))), (1, .ref (E.1 (iS j2)))]) hx hb dX4_copy_46 hl (k := 0) rfl (by decide) (by decide) rfl (fun ls hl => ?_)
  refine lv_goto (tgt := 26) hx hb dX4_copy_49 (by decide) ?_
  refine lv_iload_n hx hb dX4_copy_26 rfl (lv_at hl 0 rfl) ?_
  refine lv_iconst (v := 3) hx hb dX4_copy_27 (by decide) ?_
  refine lv_icmp_ge (tgt := 52) hx hb dX4_copy_28 (by decide) (fun _ => ?_) (fun c => absurd c (by decide))
  refine lv_iconst (v := 0) hx hb dX4_copy_52 (by decide) ?_
  refine lv_istore_n (lv' := [(2, .int 0), (0, .ref (E.1 (iS j))), (1, .ref (E.1 (iS j2)))]) hx hb dX4_copy_53 rfl hl (by decide) rfl (fun ls hl => ?_)
  refine lv_iload_n hx hb dX4_copy_54 rfl (lv_at hl 0 rfl) ?_
  refine lv_bipush (v := 6) hx hb dX4_copy_55 (by decide) ?_
  refine lv_icmp_ge (tgt := 81) hx hb dX4_copy_57 (by decide) (fun c => absurd c (by decide)) (fun _ => ?_)
  refine lv_aload_n hx hb dX4_copy_60 rfl (lv_at hl 1 rfl) ?_
  refine g_f hw hf (lt_iS hj) (c_iS E _ hj) rfl inlX4 4 (by decide) rfl q51 rfl dX4_copy_61 ?_
  refine lv_iload_n hx hb dX4_copy_64 rfl (lv_at hl 0 rfl) ?_
  refine g_q hw hf (lt_iSs hj) (c_iSs E _ hj) (t0 := 3) rfl (vp_lit 0 6 (by decide) (by decide)) (rf_N (y := 0) (by decide) (by decide)) dX4_copy_65 ?_
  refine lv_aload_n hx hb dX4_copy_66 rfl (lv_at hl 2 rfl) ?_
  refine g_f hw hf (lt_iS hj2) (c_iS E _ hj2) rfl inlX4 4 (by decide) rfl q51 rfl dX4_copy_67 ?_
  refine lv_iload_n hx hb dX4_copy_70 rfl (lv_at hl 0 rfl) ?_
  refine g_q hw hf (lt_iSs hj2) (c_iSs E _ hj2) (t0 := 3) rfl (vp_lit 0 6 (by decide) (by decide)) (rf_N (y := 0) (by decide) (by decide)) dX4_copy_71 ?_
  refine c_v hw (run_V (As := [.ref (E.1 (iN j2 0))]) (rest := []) (np := 1) hf hw (k_X3_copy l E _ hj (by decide) hj2 (by decide)  hne ) ⟨gl_V q410 q411 q412 q56 q413, by decide +kernel⟩ ⟨rfl, rfl, Nat.le_of_ble_eq_true rfl, Nat.le_of_ble_eq_true rfl⟩ (lt_iN hj (by decide)) (c_iN E _ hj (by decide)) rfl rfl hl.1 rfl (Nat.le_of_ble_eq_true rfl) dX4_copy_72 ⟨Nat.zero_le _, Nat.zero_le _⟩) (fun H locs hw => ?_)
  refine lv_iinc (v := 1) (lv' := [(2, .int 1), (0, .ref (E.1 (iS j))), (1, .ref (E.1 (iS j2)))]) hx hb dX4_copy_75 hl (k := 0) rfl (by decide) (by decide) rfl (fun ls hl => ?_)
  refine lv_goto (tgt := 54) hx hb dX4_copy_78 (by decide) ?_
  refine lv_iload_n hx hb dX4_copy_54 rfl (lv_at hl 0 rfl) ?_
  refine lv_bipush (v := 6) hx hb dX4_copy_55 (by decide) ?_
  refine lv_icmp_ge (tgt := 81) hx hb dX4_copy_57 (by decide) (fun c => absurd c (by decide)) (fun _ => ?_)
  refine lv_aload_n hx hb dX4_copy_60 rfl (lv_at hl 1 rfl) ?_
  refine g_f hw hf (lt_iS hj) (c_iS E _ hj) rfl inlX4 4 (by decide) rfl q51 rfl dX4_copy_61 ?_
  refine lv_iload_n hx hb dX4_copy_64 rfl (lv_at hl 0 rfl) ?_
  refine g_q hw hf (lt_iSs hj) (c_iSs E _ hj) (t0 := 3) rfl (vp_lit 1 6 (by decide) (by decide)) (rf_N (y := 1) (by decide) (by decide)) dX4_copy_65 ?_
  refine lv_aload_n hx hb dX4_copy_66 rfl (lv_at hl 2 rfl) ?_
  refine g_f hw hf (lt_iS hj2) (c_iS E _ hj2) rfl inlX4 4 (by decide) rfl q51 rfl dX4_copy_67 ?_
  refine lv_iload_n hx hb dX4_copy_70 rfl (lv_at hl 0 rfl) ?_
  refine g_q hw hf (lt_iSs hj2) (c_iSs E _ hj2) (t0 := 3) rfl (vp_lit 1 6 (by decide) (by decide)) (rf_N (y := 1) (by decide) (by decide)) dX4_copy_71 ?_
  refine c_v hw (run_V (As := [.ref (E.1 (iN j2 1))]) (rest := []) (np := 1) hf hw (k_X3_copy l E _ hj (by decide) hj2 (by decide)  hne ) ⟨gl_V q410 q411 q412 q56 q413, by decide +kernel⟩ ⟨rfl, rfl, Nat.le_of_ble_eq_true rfl, Nat.le_of_ble_eq_true rfl⟩ (lt_iN hj (by decide)) (c_iN E _ hj (by decide)) rfl rfl hl.1 rfl (Nat.le_of_ble_eq_true rfl) dX4_copy_72 ⟨Nat.zero_le _, Nat.zero_le _⟩) (fun H locs hw => ?_)
  refine lv_iinc (v := 2) (lv' := [(2, .int 2), (0, .ref (E.1 (iS j))), (1, .ref (E.1 (iS j2)))]) hx hb dX4_copy_75 hl (k := 0) rfl (by decide) (by decide) rfl (fun ls hl => ?_)
  refine lv_goto (tgt := 54) hx hb dX4_copy_78 (by decide) ?_
  refine lv_iload_n hx hb dX4_copy_54 rfl (lv_at hl 0 rfl) ?_
  refine lv_bipush (v := 6) hx hb dX4_copy_55 (by decide) ?_
  refine lv_icmp_ge (tgt := 81) hx hb dX4_copy_57 (by decide) (fun c => absurd c (by decide)) (fun _ => ?_)
  refine lv_aload_n hx hb dX4_copy_60 rfl (lv_at hl 1 rfl) ?_
  refine g_f hw hf (lt_iS hj) (c_iS E _ hj) rfl inlX4 4 (by decide) rfl q51 rfl dX4_copy_61 ?_
  refine lv_iload_n hx hb dX4_copy_64 rfl (lv_at hl 0 rfl) ?_
  refine g_q hw hf (lt_iSs hj) (c_iSs E _ hj) (t0 := 3) rfl (vp_lit 2 6 (by decide) (by decide)) (rf_N (y := 2) (by decide) (by decide)) dX4_copy_65 ?_
  refine lv_aload_n hx hb dX4_copy_66 rfl (lv_at hl 2 rfl) ?_
  refine g_f hw hf (lt_iS hj2) (c_iS E _ hj2) rfl inlX4 4 (by decide) rfl q51 rfl dX4_copy_67 ?_
  refine lv_iload_n hx hb dX4_copy_70 rfl (lv_at hl 0 rfl) ?_
  refine g_q hw hf (lt_iSs hj2) (c_iSs E _ hj2) (t0 := 3) rfl (vp_lit 2 6 (by decide) (by decide)) (rf_N (y := 2) (by decide) (by decide)) dX4_copy_71 ?_
  refine c_v hw (run_V (As := [.ref (E.1 (iN j2 2))]) (rest := []) (np := 1) hf hw (k_X3_copy l E _ hj (by decide) hj2 (by decide)  hne ) ⟨gl_V q410 q411 q412 q56 q413, by decide +kernel⟩ ⟨rfl, rfl, Nat.le_of_ble_eq_true rfl, Nat.le_of_ble_eq_true rfl⟩ (lt_iN hj (by decide)) (c_iN E _ hj (by decide)) rfl rfl hl.1 rfl (Nat.le_of_ble_eq_true rfl) dX4_copy_72 ⟨Nat.zero_le _, Nat.zero_le _⟩) (fun H locs hw => ?_)
  refine lv_iinc (v := 3) (lv' := [(2, .int 3), (0, .ref (E.1 (iS j))), (1, .ref (E.1 (iS j2)))]) hx hb dX4_copy_75 hl (k := 0) rfl (by decide) (by decide) rfl (fun ls hl => ?_)
  refine lv_goto (tgt := 54) hx hb dX4_copy_78 (by decide) ?_
  refine lv_iload_n hx hb dX4_copy_54 rfl (lv_at hl 0 rfl) ?_
  refine lv_bipush (v := 6) hx hb dX4_copy_55 (by decide) ?_
  refine lv_icmp_ge (tgt := 81) hx hb dX4_copy_57 (by decide) (fun c => absurd c (by decide)) (fun _ => ?_)
  refine lv_aload_n hx hb dX4_copy_60 rfl (lv_at hl 1 rfl) ?_
  refine g_f hw hf (lt_iS hj) (c_iS E _ hj) rfl inlX4 4 (by decide) rfl q51 rfl dX4_copy_61 ?_
  refine lv_iload_n hx hb dX4_copy_64 rfl (lv_at hl 0 rfl) ?_
  refine g_q hw hf (lt_iSs hj) (c_iSs E _ hj) (t0 := 3) rfl (vp_lit 3 6 (by decide) (by decide)) (rf_N (y := 3) (by decide) (by decide)) dX4_copy_65 ?_
  refine lv_aload_n hx hb dX4_copy_66 rfl (lv_at hl 2 rfl) ?_
  refine g_f hw hf (lt_iS hj2) (c_iS E _ hj2) rfl inlX4 4 (by decide) rfl q51 rfl dX4_copy_67 ?_
  refine lv_iload_n hx hb dX4_copy_70 rfl (lv_at hl 0 rfl) ?_
  refine g_q hw hf (lt_iSs hj2) (c_iSs E _ hj2) (t0 := 3) rfl (vp_lit 3 6 (by decide) (by decide)) (rf_N (y := 3) (by decide) (by decide)) dX4_copy_71 ?_
  refine c_v hw (run_V (As := [.ref (E.1 (iN j2 3))]) (rest := []) (np := 1) hf hw (k_X3_copy l E _ hj (by decide) hj2 (by decide)  hne ) ⟨gl_V q410 q411 q412 q56 q413, by decide +kernel⟩ ⟨rfl, rfl, Nat.le_of_ble_eq_true rfl, Nat.le_of_ble_eq_true rfl⟩ (lt_iN hj (by decide)) (c_iN E _ hj (by decide)) rfl rfl hl.1 rfl (Nat.le_of_ble_eq_true rfl) dX4_copy_72 ⟨Nat.zero_le _, Nat.zero_le _⟩) (fun H locs hw => ?_)
  refine lv_iinc (v := 4) (lv' := [(2, .int 4), (0, .ref (E.1 (iS j))), (1, .ref (E.1 (iS j2)))]) hx hb dX4_copy_75 hl (k := 0) rfl (by decide) (by decide) rfl (fun ls hl => ?_)
  refine lv_goto (tgt := 54) hx hb dX4_copy_78 (by decide) ?_
  refine lv_iload_n hx hb dX4_copy_54 rfl (lv_at hl 0 rfl) ?_
  refine lv_bipush (v := 6) hx hb dX4_copy_55 (by decide) ?_
  refine lv_icmp_ge (tgt := 81) hx hb dX4_copy_57 (by decide) (fun c => absurd c (by decide)) (fun _ => ?_)
  refine lv_aload_n hx hb dX4_copy_60 rfl (lv_at hl 1 rfl) ?_
  refine g_f hw hf (lt_iS hj) (c_iS E _ hj) rfl inlX4 4 (by decide) rfl q51 rfl dX4_copy_61 ?_
  refine lv_iload_n hx hb dX4_copy_64 rfl (lv_at hl 0 rfl) ?_
  refine g_q hw hf (lt_iSs hj) (c_iSs E _ hj) (t0 := 3) rfl (vp_lit 4 6 (by decide) (by decide)) (rf_N (y := 4) (by decide) (by decide)) dX4_copy_65 ?_
  refine lv_aload_n hx hb dX4_copy_66 rfl (lv_at hl 2 rfl) ?_
  refine g_f hw hf (lt_iS hj2) (c_iS E _ hj2) rfl inlX4 4 (by decide) rfl q51 rfl dX4_copy_67 ?_
  refine lv_iload_n hx hb dX4_copy_70 rfl (lv_at hl 0 rfl) ?_
  refine g_q hw hf (lt_iSs hj2) (c_iSs E _ hj2) (t0 := 3) rfl (vp_lit 4 6 (by decide) (by decide)) (rf_N (y := 4) (by decide) (by decide)) dX4_copy_71 ?_
  refine c_v hw (run_V (As := [.ref (E.1 (iN j2 4))]) (rest := []) (np := 1) hf hw (k_X3_copy l E _ hj (by decide) hj2 (by decide)  hne ) ⟨gl_V q410 q411 q412 q56 q413, by decide +kernel⟩ ⟨rfl, rfl, Nat.le_of_ble_eq_true rfl, Nat.le_of_ble_eq_true rfl⟩ (lt_iN hj (by decide)) (c_iN E _ hj (by decide)) rfl rfl hl.1 rfl (Nat.le_of_ble_eq_true rfl) dX4_copy_72 ⟨Nat.zero_le _, Nat.zero_le _⟩) (fun H locs hw => ?_)
  refine lv_iinc (v := 5) (lv' := [(2, .int 5), (0, .ref (E.1 (iS j))), (1, .ref (E.1 (iS j2)))]) hx hb dX4_copy_75 hl (k := 0) rfl (by decide) (by decide) rfl (fun ls hl => ?_)
  refine lv_goto (tgt := 54) hx hb dX4_copy_78 (by decide) ?_
  refine lv_iload_n hx hb dX4_copy_54 rfl (lv_at hl 0 rfl) ?_
  refine lv_bipush (v := 6) hx hb dX4_copy_55 (by decide) ?_
  refine lv_icmp_ge (tgt := 81) hx hb dX4_copy_57 (by decide) (fun c => absurd c (by decide)) (fun _ => ?_)
  refine lv_aload_n hx hb dX4_copy_60 rfl (lv_at hl 1 rfl) ?_
  refine g_f hw hf (lt_iS hj) (c_iS E _ hj) rfl inlX4 4 (by decide) rfl q51 rfl dX4_copy_61 ?_
  refine lv_iload_n hx hb dX4_copy_64 rfl (lv_at hl 0 rfl) ?_
  refine g_q hw hf (lt_iSs hj) (c_iSs E _ hj) (t0 := 3) rfl (vp_lit 5 6 (by decide) (by decide)) (rf_N (y := 5) (by decide) (by decide)) dX4_copy_65 ?_
  refine lv_aload_n hx hb dX4_copy_66 rfl (lv_at hl 2 rfl) ?_
  refine g_f hw hf (lt_iS hj2) (c_iS E _ hj2) rfl inlX4 4 (by decide) rfl q51 rfl dX4_copy_67 ?_
  refine lv_iload_n hx hb dX4_copy_70 rfl (lv_at hl 0 rfl) ?_
  refine g_q hw hf (lt_iSs hj2) (c_iSs E _ hj2) (t0 := 3) rfl (vp_lit 5 6 (by decide) (by decide)) (rf_N (y := 5) (by decide) (by decide)) dX4_copy_71 ?_
  refine c_v hw (run_V (As := [.ref (E.1 (iN j2 5))]) (rest := []) (np := 1) hf hw (k_X3_copy l E _ hj (by decide) hj2 (by decide)  hne ) ⟨gl_V q410 q411 q412 q56 q413, by decide +kernel⟩ ⟨rfl, rfl, Nat.le_of_ble_eq_true rfl, Nat.le_of_ble_eq_true rfl⟩ (lt_iN hj (by decide)) (c_iN E _ hj (by decide)) rfl rfl hl.1 rfl (Nat.le_of_ble_eq_true rfl) dX4_copy_72 ⟨Nat.zero_le _, Nat.zero_le _⟩) (fun H locs hw => ?_)
  refine lv_iinc (v := 6) (lv' := [(2, .int 6), (0, .ref (E.1 (iS j))), (1, .ref (E.1 (iS j2)))]) hx hb dX4_copy_75 hl (k := 0) rfl (by decide) (by decide) rfl (fun ls hl => ?_)
  refine lv_goto (tgt := 54) hx hb dX4_copy_78 (by decide) ?_
  refine lv_iload_n hx hb dX4_copy_54 rfl (lv_at hl 0 rfl) ?_
  refine lv_bipush (v := 6) hx hb dX4_copy_55 (by decide) ?_
  refine lv_icmp_ge (tgt := 81) hx hb dX4_copy_57 (by decide) (fun _ => ?_) (fun c => absurd c (by decide))
  refine lv_aload_n hx hb dX4_copy_81 rfl (lv_at hl 2 rfl) ?_
  refine g_f hw hf (lt_iS hj2) (c_iS E _ hj2) rfl inlX4 5 (by decide) rfl q52 rfl dX4_copy_82 ?_
  refine lv_iconst (v := 0) hx hb dX4_copy_85 (by decide) ?_
  refine lv_aload_n hx hb dX4_copy_86 rfl (lv_at hl 1 rfl) ?_
  refine g_f hw hf (lt_iS hj) (c_iS E _ hj) rfl inlX4 5 (by decide) rfl q52 rfl dX4_copy_87 ?_
  refine lv_iconst (v := 0) hx hb dX4_copy_90 (by decide) ?_
  refine lv_bipush (v := 7) hx hb dX4_copy_91 (by decide) ?_
  refine a_cp hw hf hl.1 (lt_iSe hj2) (tb_iSe _ hj2) (lt_iSe hj) (tb_iSe _ hj) q57 q58 q59 q60 (by decide) (Nat.le_of_ble_eq_true rfl) (Nat.le_of_ble_eq_true rfl) dX4_copy_93 (fun H locs hw => ?_)
  exact e_v hf hr hlocks hw rfl dX4_copy_96
def KOk (K : Nat → Nat) : Prop := ∀ y, y < 4 → 2 ≤ K y ∧ K y < 6
theorem ne_K0 {k : Nat} (h : 2 ≤ k) : 0 ≠ k := by omega
theorem ne_K1 {k : Nat} (h : 2 ≤ k) : 1 ≠ k := by omega
def sp_X0_dropOldest (μ : Mu)   : Mu :=
  pM (pK (pK (pK (pK μ 0 (μ.2.2 1)) 1 (μ.2.2 2)) 2 (μ.2.2 3)) 3 (μ.2.2 0)) 6 0 (3 : Int32)
set_option maxHeartbeats 4000000 in
set_option maxRecDepth 100000 in
theorem k_X0_dropOldest (l : Launch) (E : En) (μ : Mu)   (hK : KOk μ.2.2) : MtV l yX0_dropOldest cX0_dropOldest 3 ({ frames := 0, cells := 0, slots := 0, locals := 0 }) [.ref (E.1 (222))] E μ (sp_X0_dropOldest μ ) := by
  refine mt_of (by decide +kernel) (Nat.le_of_ble_eq_true rfl) ?_
  intro p e s m args below meth c ls hf hr hlocks hl hw
  have hx := hf.1
  have hb := hf.2.1
  have hl : lv_has ls 3 [(0, .ref (E.1 (222)))] := hl
  refine lv_aload_n hx hb dX0_dropOldest_0 rfl (lv_at hl 0 rfl) ?_
  refine g_f hw hf (by decide) (c_Hi E _) rfl inlX0 1 (by decide) rfl q78 rfl dX0_dropOldest_1 ?_
  refine lv_iconst (v := 0) hx hb dX0_dropOldest_4 (by decide) ?_
  refine g_q hw hf (by decide) (c_Hk E _) (t0 := 4) rfl (vp_lit 0 4 (by decide) (by decide)) (rf_K (y := 0) (by decide) (by decide)) dX0_dropOldest_5 ?_
  refine lv_astore_n (lv' := [(1, .ref (E.1 (iS (μ.2.2 0)))), (0, .ref (E.1 (222)))]) hx hb dX0_dropOldest_6 rfl hl (by decide) rfl (fun ls hl => ?_)
  refine lv_iconst (v := 1) hx hb dX0_dropOldest_7 (by decide) ?_
  refine lv_istore_n (lv' := [(2, .int 1), (1, .ref (E.1 (iS (μ.2.2 0)))), (0, .ref (E.1 (222)))]) hx hb dX0_dropOldest_8 rfl hl (by decide) rfl (fun ls hl => ?_)
  refine lv_iload_n hx hb dX0_dropOldest_9 rfl (lv_at hl 0 rfl) ?_
  refine lv_aload_n hx hb dX0_dropOldest_10 rfl (lv_at hl 2 rfl) ?_
  refine g_f hw hf (by decide) (c_Hi E _) rfl inlX0 1 (by decide) rfl q78 rfl dX0_dropOldest_11 ?_
  refine g_n hw hf (by decide) (c_Hk E _) (t0 := 4) (v := 4) rfl rfl dX0_dropOldest_14 ?_
  refine lv_icmp_ge (tgt := 38) hx hb dX0_dropOldest_15 (by decide) (fun c => absurd c (by decide)) (fun _ => ?_)
  refine lv_aload_n hx hb dX0_dropOldest_18 rfl (lv_at hl 2 rfl) ?_
  refine g_f hw hf (by decide) (c_Hi E _) rfl inlX0 1 (by decide) rfl q78 rfl dX0_dropOldest_19 ?_
  refine lv_iload_n hx hb dX0_dropOldest_22 rfl (lv_at hl 0 rfl) ?_
  refine lv_iconst (v := 1) hx hb dX0_dropOldest_23 (by decide) ?_
  refine lv_isub hx hb dX0_dropOldest_24 ?_
  refine fold_i (show (1 - 1 : Int32) = 0 from by decide) ?_
  refine lv_aload_n hx hb dX0_dropOldest_25 rfl (lv_at hl 2 rfl) ?_
  refine g_f hw hf (by decide) (c_Hi E _) rfl inlX0 1 (by decide) rfl q78 rfl dX0_dropOldest_26 ?_
  refine lv_iload_n hx hb dX0_dropOldest_29 rfl (lv_at hl 0 rfl) ?_
  refine g_q hw hf (by decide) (c_Hk E _) (t0 := 4) rfl (vp_lit 1 4 (by decide) (by decide)) (rf_K (y := 1) (by decide) (by decide)) dX0_dropOldest_30 ?_
  refine p_q (y := 0) hw hf (vp_lit 0 4 (by decide) (by decide)) (by decide) (by decide) (hK 1 (by decide)).2 dX0_dropOldest_31 (fun H locs hw => ?_)
  refine lv_iinc (v := 2) (lv' := [(2, .int 2), (1, .ref (E.1 (iS (μ.2.2 0)))), (0, .ref (E.1 (222)))]) hx hb dX0_dropOldest_32 hl (k := 0) rfl (by decide) (by decide) rfl (fun ls hl => ?_)
  refine lv_goto (tgt := 9) hx hb dX0_dropOldest_35 (by decide) ?_
  refine lv_iload_n hx hb dX0_dropOldest_9 rfl (lv_at hl 0 rfl) ?_
  refine lv_aload_n hx hb dX0_dropOldest_10 rfl (lv_at hl 2 rfl) ?_
  refine g_f hw hf (by decide) (c_Hi E _) rfl inlX0 1 (by decide) rfl q78 rfl dX0_dropOldest_11 ?_
  refine g_n hw hf (by decide) (c_Hk E _) (t0 := 4) (v := 4) rfl rfl dX0_dropOldest_14 ?_
  refine lv_icmp_ge (tgt := 38) hx hb dX0_dropOldest_15 (by decide) (fun c => absurd c (by decide)) (fun _ => ?_)
  refine lv_aload_n hx hb dX0_dropOldest_18 rfl (lv_at hl 2 rfl) ?_
  refine g_f hw hf (by decide) (c_Hi E _) rfl inlX0 1 (by decide) rfl q78 rfl dX0_dropOldest_19 ?_
  refine lv_iload_n hx hb dX0_dropOldest_22 rfl (lv_at hl 0 rfl) ?_
  refine lv_iconst (v := 1) hx hb dX0_dropOldest_23 (by decide) ?_
  refine lv_isub hx hb dX0_dropOldest_24 ?_
  refine fold_i (show (2 - 1 : Int32) = 1 from by decide) ?_
  refine lv_aload_n hx hb dX0_dropOldest_25 rfl (lv_at hl 2 rfl) ?_
  refine g_f hw hf (by decide) (c_Hi E _) rfl inlX0 1 (by decide) rfl q78 rfl dX0_dropOldest_26 ?_
  refine lv_iload_n hx hb dX0_dropOldest_29 rfl (lv_at hl 0 rfl) ?_
  refine g_q hw hf (by decide) (c_Hk E _) (t0 := 4) rfl (vp_lit 2 4 (by decide) (by decide)) ((rf_K (y := 2) (by decide) (by decide)).trans (congrArg (fun z => Value.ref (E.1 (iS z))) (show _ = μ.2.2 2 from by simp [pK, pM, va_up]))) dX0_dropOldest_30 ?_
  refine p_q (y := 1) hw hf (vp_lit 1 4 (by decide) (by decide)) (by decide) (by decide) (hK 2 (by decide)).2 dX0_dropOldest_31 (fun H locs hw => ?_)
  refine lv_iinc (v := 3) (lv' := [(2, .int 3), (1, .ref (E.1 (iS (μ.2.2 0)))), (0, .ref (E.1 (222)))]) hx hb dX0_dropOldest_32 hl (k := 0) rfl (by decide) (by decide) rfl (fun ls hl => ?_)
  refine lv_goto (tgt := 9) hx hb dX0_dropOldest_35 (by decide) ?_
  refine lv_iload_n hx hb dX0_dropOldest_9 rfl (lv_at hl 0 rfl) ?_
  refine lv_aload_n hx hb dX0_dropOldest_10 rfl (lv_at hl 2 rfl) ?_
  refine g_f hw hf (by decide) (c_Hi E _) rfl inlX0 1 (by decide) rfl q78 rfl dX0_dropOldest_11 ?_
  refine g_n hw hf (by decide) (c_Hk E _) (t0 := 4) (v := 4) rfl rfl dX0_dropOldest_14 ?_
  refine lv_icmp_ge (tgt := 38) hx hb dX0_dropOldest_15 (by decide) (fun c => absurd c (by decide)) (fun _ => ?_)
  refine lv_aload_n hx hb dX0_dropOldest_18 rfl (lv_at hl 2 rfl) ?_
  refine g_f hw hf (by decide) (c_Hi E _) rfl inlX0 1 (by decide) rfl q78 rfl dX0_dropOldest_19 ?_
  refine lv_iload_n hx hb dX0_dropOldest_22 rfl (lv_at hl 0 rfl) ?_
  refine lv_iconst (v := 1) hx hb dX0_dropOldest_23 (by decide) ?_
  refine lv_isub hx hb dX0_dropOldest_24 ?_
  refine fold_i (show (3 - 1 : Int32) = 2 from by decide) ?_
  refine lv_aload_n hx hb dX0_dropOldest_25 rfl (lv_at hl 2 rfl) ?_
  refine g_f hw hf (by decide) (c_Hi E _) rfl inlX0 1 (by decide) rfl q78 rfl dX0_dropOldest_26 ?_
  refine lv_iload_n hx hb dX0_dropOldest_29 rfl (lv_at hl 0 rfl) ?_
  refine g_q hw hf (by decide) (c_Hk E _) (t0 := 4) rfl (vp_lit 3 4 (by decide) (by decide)) ((rf_K (y := 3) (by decide) (by decide)).trans (congrArg (fun z => Value.ref (E.1 (iS z))) (show _ = μ.2.2 3 from by simp [pK, pM, va_up]))) dX0_dropOldest_30 ?_
  refine p_q (y := 2) hw hf (vp_lit 2 4 (by decide) (by decide)) (by decide) (by decide) (hK 3 (by decide)).2 dX0_dropOldest_31 (fun H locs hw => ?_)
  refine lv_iinc (v := 4) (lv' := [(2, .int 4), (1, .ref (E.1 (iS (μ.2.2 0)))), (0, .ref (E.1 (222)))]) hx hb dX0_dropOldest_32 hl (k := 0) rfl (by decide) (by decide) rfl (fun ls hl => ?_)
  refine lv_goto (tgt := 9) hx hb dX0_dropOldest_35 (by decide) ?_
  refine lv_iload_n hx hb dX0_dropOldest_9 rfl (lv_at hl 0 rfl) ?_
  refine lv_aload_n hx hb dX0_dropOldest_10 rfl (lv_at hl 2 rfl) ?_
  refine g_f hw hf (by decide) (c_Hi E _) rfl inlX0 1 (by decide) rfl q78 rfl dX0_dropOldest_11 ?_
  refine g_n hw hf (by decide) (c_Hk E _) (t0 := 4) (v := 4) rfl rfl dX0_dropOldest_14 ?_
  refine lv_icmp_ge (tgt := 38) hx hb dX0_dropOldest_15 (by decide) (fun _ => ?_) (fun c => absurd c (by decide))
  refine lv_aload_n hx hb dX0_dropOldest_38 rfl (lv_at hl 2 rfl) ?_
  refine g_f hw hf (by decide) (c_Hi E _) rfl inlX0 1 (by decide) rfl q78 rfl dX0_dropOldest_39 ?_
  refine lv_aload_n hx hb dX0_dropOldest_42 rfl (lv_at hl 2 rfl) ?_
  refine g_f hw hf (by decide) (c_Hi E _) rfl inlX0 1 (by decide) rfl q78 rfl dX0_dropOldest_43 ?_
  refine g_n hw hf (by decide) (c_Hk E _) (t0 := 4) (v := 4) rfl rfl dX0_dropOldest_46 ?_
  refine lv_iconst (v := 1) hx hb dX0_dropOldest_47 (by decide) ?_
  refine lv_isub hx hb dX0_dropOldest_48 ?_
  refine fold_i (show (4 - 1 : Int32) = 3 from by decide) ?_
  refine lv_aload_n hx hb dX0_dropOldest_49 rfl (lv_at hl 1 rfl) ?_
  refine p_q (y := 3) hw hf (vp_lit 3 4 (by decide) (by decide)) (by decide) (by decide) (hK 0 (by decide)).2 dX0_dropOldest_50 (fun H locs hw => ?_)
  refine lv_aload_n hx hb dX0_dropOldest_51 rfl (lv_at hl 2 rfl) ?_
  refine lv_aload_n hx hb dX0_dropOldest_52 rfl (lv_at hl 2 rfl) ?_
  refine g_f hw hf (by decide) (c_Hi E _) rfl inlX0 1 (by decide) rfl q78 rfl dX0_dropOldest_53 ?_
  refine g_n hw hf (by decide) (c_Hk E _) (t0 := 4) (v := 4) rfl rfl dX0_dropOldest_56 ?_
  refine lv_iconst (v := 1) hx hb dX0_dropOldest_57 (by decide) ?_
  refine lv_isub hx hb dX0_dropOldest_58 ?_
  refine fold_i (show (4 - 1 : Int32) = 3 from by decide) ?_
  refine p_f hw hf (by decide) (c_Hi E _) rfl inlX0 tyX0_ok nmX0 0 (by decide) rfl q396 rfl rfl rfl (Nat.le_of_ble_eq_true rfl) (s_Hi_0 E _ _) dX0_dropOldest_59 (fun H locs hw => ?_)
  exact e_v hf hr hlocks hw rfl dX0_dropOldest_62
theorem b_X0_dropOldest {μ : Mu} (hK : KOk μ.2.2) : KOk (sp_X0_dropOldest μ ).2.2 := by
  intro y hy
  have h0 := hK 0 (by decide)
  have h1 := hK 1 (by decide)
  have h2 := hK 2 (by decide)
  have h3 := hK 3 (by decide)
  have : y = 0 ∨ y = 1 ∨ y = 2 ∨ y = 3 := by omega
  rcases this with rfl | rfl | rfl | rfl <;> simpa [sp_X0_dropOldest, pK, pM, va_up]
def sp_X0_record (μ : Mu)   : Mu :=
  if (μ.1 6 0 : Int32) < 4 then
    if (μ.1 6 0 : Int32) < 0 then
      μ
    else
      if (4 : Int32) ≤ μ.1 6 0 then
        μ
      else
        pM (sp_X4_copy μ (μ.2.2 ((μ.1 6 0).toNatClampNeg)) 0 ) 6 0 (((sp_X4_copy μ (μ.2.2 ((μ.1 6 0).toNatClampNeg)) 0 ).1 6 0) + 1)
  else
    if ((sp_X0_dropOldest μ  ).1 6 0 : Int32) < 0 then
      sp_X0_dropOldest μ  
    else
      if (4 : Int32) ≤ (sp_X0_dropOldest μ  ).1 6 0 then
        sp_X0_dropOldest μ  
      else
        pM (sp_X4_copy (sp_X0_dropOldest μ  ) ((sp_X0_dropOldest μ  ).2.2 (((sp_X0_dropOldest μ  ).1 6 0).toNatClampNeg)) 0 ) 6 0 (((sp_X4_copy (sp_X0_dropOldest μ  ) ((sp_X0_dropOldest μ  ).2.2 (((sp_X0_dropOldest μ  ).1 6 0).toNatClampNeg)) 0 ).1 6 0) + 1)
set_option maxHeartbeats 4000000 in
set_option maxRecDepth 100000 in
theorem k_X0_record (l : Launch) (E : En) (μ : Mu)   (hK : KOk μ.2.2) : MtV l yX0_record cX0_record 2 ({ frames := 3, cells := 0, slots := 0, locals := 83 }) [.ref (E.1 (222)), .ref (E.1 (iS 0))] E μ (sp_X0_record μ ) := by
  refine mt_of (by decide +kernel) (Nat.le_of_ble_eq_true rfl) ?_
  intro p e s m args below meth c ls hf hr hlocks hl hw
  have hx := hf.1
  have hb := hf.2.1
  have hl : lv_has ls 2 [(0, .ref (E.1 (222))), (1, .ref (E.1 (iS 0)))] := hl
  refine lv_aload_n hx hb dX0_record_0 rfl (lv_at hl 0 rfl) ?_
  refine g_f hw hf (by decide) (c_Hi E _) rfl inlX0 0 (by decide) rfl q396 rfl dX0_record_1 ?_
  refine lv_aload_n hx hb dX0_record_4 rfl (lv_at hl 0 rfl) ?_
  refine g_f hw hf (by decide) (c_Hi E _) rfl inlX0 1 (by decide) rfl q78 rfl dX0_record_5 ?_
  refine g_n hw hf (by decide) (c_Hk E _) (t0 := 4) (v := 4) rfl rfl dX0_record_8 ?_
  refine lv_icmp_lt (tgt := 16) hx hb dX0_record_9 (by decide) (fun c1 => ?_) (fun c1 => ?_)
  · refine lv_aload_n hx hb dX0_record_16 rfl (lv_at hl 0 rfl) ?_
    refine g_f hw hf (by decide) (c_Hi E _) rfl inlX0 0 (by decide) rfl q396 rfl dX0_record_17 ?_
    refine lv_if_lt (tgt := 58) hx hb dX0_record_20 (by decide) (fun c2 => ?_) (fun c2 => ?_)
    · exact e_v hf hr hlocks hw ((if_pos c1).trans ((if_pos c2).trans rfl)) dX0_record_58
    · refine lv_aload_n hx hb dX0_record_23 rfl (lv_at hl 0 rfl) ?_
      refine g_f hw hf (by decide) (c_Hi E _) rfl inlX0 0 (by decide) rfl q396 rfl dX0_record_24 ?_
      refine lv_aload_n hx hb dX0_record_27 rfl (lv_at hl 0 rfl) ?_
      refine g_f hw hf (by decide) (c_Hi E _) rfl inlX0 1 (by decide) rfl q78 rfl dX0_record_28 ?_
      refine g_n hw hf (by decide) (c_Hk E _) (t0 := 4) (v := 4) rfl rfl dX0_record_31 ?_
      refine lv_icmp_ge (tgt := 58) hx hb dX0_record_32 (by decide) (fun c3 => ?_) (fun c3 => ?_)
      · exact e_v hf hr hlocks hw ((if_pos c1).trans ((if_neg c2).trans ((if_pos c3).trans rfl))) dX0_record_58
      · refine lv_aload_n hx hb dX0_record_35 rfl (lv_at hl 0 rfl) ?_
        refine g_f hw hf (by decide) (c_Hi E _) rfl inlX0 1 (by decide) rfl q78 rfl dX0_record_36 ?_
        refine lv_aload_n hx hb dX0_record_39 rfl (lv_at hl 0 rfl) ?_
        refine g_f hw hf (by decide) (c_Hi E _) rfl inlX0 0 (by decide) rfl q396 rfl dX0_record_40 ?_
        refine g_q hw hf (by decide) (c_Hk E _) (t0 := 4) rfl (vin 4 4 (by decide) (by decide) rfl c2 c3) (rf_K (y := (μ.1 6 0).toNatClampNeg) (vin_lt (vin 4 4 (by decide) (by decide) rfl c2 c3)) rfl) dX0_record_43 ?_
        refine lv_aload_n hx hb dX0_record_44 rfl (lv_at hl 1 rfl) ?_
        refine c_v hw (run_V (As := [.ref (E.1 (iS 0))]) (rest := []) (np := 1) hf hw (k_X4_copy l E _ (hK ((μ.1 6 0).toNatClampNeg) (vin_lt (vin 4 4 (by decide) (by decide) rfl c2 c3))).2 (by decide)  (ne_K0 ((hK ((μ.1 6 0).toNatClampNeg) (vin_lt (vin 4 4 (by decide) (by decide) rfl c2 c3)))).1) ) ⟨gl_V q401 q402 q403 q22 q404, by decide +kernel⟩ ⟨rfl, rfl, Nat.le_of_ble_eq_true rfl, Nat.le_of_ble_eq_true rfl⟩ (lt_iS (hK ((μ.1 6 0).toNatClampNeg) (vin_lt (vin 4 4 (by decide) (by decide) rfl c2 c3))).2) (c_iS E _ (hK ((μ.1 6 0).toNatClampNeg) (vin_lt (vin 4 4 (by decide) (by decide) rfl c2 c3))).2) rfl rfl hl.1 rfl (Nat.le_of_ble_eq_true rfl) dX0_record_45 ⟨Nat.zero_le _, Nat.zero_le _⟩) (fun H locs hw => ?_)
        refine lv_aload_n hx hb dX0_record_48 rfl (lv_at hl 0 rfl) ?_
        refine lv_dup hx hb dX0_record_49 rfl ?_
        refine g_f hw hf (by decide) (c_Hi E _) rfl inlX0 0 (by decide) rfl q396 rfl dX0_record_50 ?_
        refine lv_iconst (v := 1) hx hb dX0_record_53 (by decide) ?_
        refine lv_iadd hx hb dX0_record_54 ?_
        refine p_f hw hf (by decide) (c_Hi E _) rfl inlX0 tyX0_ok nmX0 0 (by decide) rfl q396 rfl rfl rfl (Nat.le_of_ble_eq_true rfl) (s_Hi_0 E _ _) dX0_record_55 (fun H locs hw => ?_)
        exact e_v hf hr hlocks hw ((if_pos c1).trans ((if_neg c2).trans ((if_neg c3).trans rfl))) dX0_record_58
  · refine lv_aload_n hx hb dX0_record_12 rfl (lv_at hl 0 rfl) ?_
    refine c_v hw (run_V (As := []) (rest := []) (np := 0) hf hw (k_X0_dropOldest l E _    hK) ⟨gl_V q397 q398 q399 q27 q400, by decide +kernel⟩ ⟨rfl, rfl, Nat.le_of_ble_eq_true rfl, Nat.le_of_ble_eq_true rfl⟩ (by decide) (c_Hi E _) rfl rfl hl.1 rfl (Nat.le_of_ble_eq_true rfl) dX0_record_13 ⟨Nat.zero_le _, Nat.zero_le _⟩) (fun H locs hw => ?_)
    have hKd := b_X0_dropOldest hK
    refine lv_aload_n hx hb dX0_record_16 rfl (lv_at hl 0 rfl) ?_
    refine g_f hw hf (by decide) (c_Hi E _) rfl inlX0 0 (by decide) rfl q396 rfl dX0_record_17 ?_
    refine lv_if_lt (tgt := 58) hx hb dX0_record_20 (by decide) (fun c4 => ?_) (fun c4 => ?_)
    · exact e_v hf hr hlocks hw ((if_neg c1).trans ((if_pos c4).trans rfl)) dX0_record_58
    · refine lv_aload_n hx hb dX0_record_23 rfl (lv_at hl 0 rfl) ?_
      refine g_f hw hf (by decide) (c_Hi E _) rfl inlX0 0 (by decide) rfl q396 rfl dX0_record_24 ?_
      refine lv_aload_n hx hb dX0_record_27 rfl (lv_at hl 0 rfl) ?_
      refine g_f hw hf (by decide) (c_Hi E _) rfl inlX0 1 (by decide) rfl q78 rfl dX0_record_28 ?_
      refine g_n hw hf (by decide) (c_Hk E _) (t0 := 4) (v := 4) rfl rfl dX0_record_31 ?_
      refine lv_icmp_ge (tgt := 58) hx hb dX0_record_32 (by decide) (fun c5 => ?_) (fun c5 => ?_)
      · exact e_v hf hr hlocks hw ((if_neg c1).trans ((if_neg c4).trans ((if_pos c5).trans rfl))) dX0_record_58
      · refine lv_aload_n hx hb dX0_record_35 rfl (lv_at hl 0 rfl) ?_
        refine g_f hw hf (by decide) (c_Hi E _) rfl inlX0 1 (by decide) rfl q78 rfl dX0_record_36 ?_
        refine lv_aload_n hx hb dX0_record_39 rfl (lv_at hl 0 rfl) ?_
        refine g_f hw hf (by decide) (c_Hi E _) rfl inlX0 0 (by decide) rfl q396 rfl dX0_record_40 ?_
        refine g_q hw hf (by decide) (c_Hk E _) (t0 := 4) rfl (vin 4 4 (by decide) (by decide) rfl c4 c5) (rf_K (y := ((sp_X0_dropOldest μ  ).1 6 0).toNatClampNeg) (vin_lt (vin 4 4 (by decide) (by decide) rfl c4 c5)) rfl) dX0_record_43 ?_
        refine lv_aload_n hx hb dX0_record_44 rfl (lv_at hl 1 rfl) ?_
        refine c_v hw (run_V (As := [.ref (E.1 (iS 0))]) (rest := []) (np := 1) hf hw (k_X4_copy l E _ (hKd _ (vin_lt (vin 4 4 (by decide) (by decide) rfl c4 c5))).2 (by decide)  (ne_K0 ((hKd _ (vin_lt (vin 4 4 (by decide) (by decide) rfl c4 c5)))).1) ) ⟨gl_V q401 q402 q403 q22 q404, by decide +kernel⟩ ⟨rfl, rfl, Nat.le_of_ble_eq_true rfl, Nat.le_of_ble_eq_true rfl⟩ (lt_iS (hKd _ (vin_lt (vin 4 4 (by decide) (by decide) rfl c4 c5))).2) (c_iS E _ (hKd _ (vin_lt (vin 4 4 (by decide) (by decide) rfl c4 c5))).2) rfl rfl hl.1 rfl (Nat.le_of_ble_eq_true rfl) dX0_record_45 ⟨Nat.zero_le _, Nat.zero_le _⟩) (fun H locs hw => ?_)
        refine lv_aload_n hx hb dX0_record_48 rfl (lv_at hl 0 rfl) ?_
        refine lv_dup hx hb dX0_record_49 rfl ?_
        refine g_f hw hf (by decide) (c_Hi E _) rfl inlX0 0 (by decide) rfl q396 rfl dX0_record_50 ?_
        refine lv_iconst (v := 1) hx hb dX0_record_53 (by decide) ?_
        refine lv_iadd hx hb dX0_record_54 ?_
        refine p_f hw hf (by decide) (c_Hi E _) rfl inlX0 tyX0_ok nmX0 0 (by decide) rfl q396 rfl rfl rfl (Nat.le_of_ble_eq_true rfl) (s_Hi_0 E _ _) dX0_record_55 (fun H locs hw => ?_)
        exact e_v hf hr hlocks hw ((if_neg c1).trans ((if_neg c4).trans ((if_neg c5).trans rfl))) dX0_record_58
def sp_X0_restore (μ : Mu)   : Mu :=
  if (μ.1 6 0 : Int32) ≤ 0 then
    μ
  else
    if (4 : Int32) < μ.1 6 0 then
      μ
    else
      sp_X4_copy (pM μ 6 0 ((μ.1 6 0) - 1)) 0 (μ.2.2 (((μ.1 6 0) - 1).toNatClampNeg)) 
set_option maxHeartbeats 4000000 in
set_option maxRecDepth 100000 in
theorem k_X0_restore (l : Launch) (E : En) (μ : Mu)   (hK : KOk μ.2.2) : MtV l yX0_restore cX0_restore 2 ({ frames := 3, cells := 0, slots := 0, locals := 83 }) [.ref (E.1 (222)), .ref (E.1 (iS 0))] E μ (sp_X0_restore μ ) := by
  refine mt_of (by decide +kernel) (Nat.le_of_ble_eq_true rfl) ?_
  intro p e s m args below meth c ls hf hr hlocks hl hw
  have hx := hf.1
  have hb := hf.2.1
  have hl : lv_has ls 2 [(0, .ref (E.1 (222))), (1, .ref (E.1 (iS 0)))] := hl
  refine lv_aload_n hx hb dX0_restore_0 rfl (lv_at hl 0 rfl) ?_
  refine g_f hw hf (by decide) (c_Hi E _) rfl inlX0 0 (by decide) rfl q396 rfl dX0_restore_1 ?_
  refine lv_if_le (tgt := 42) hx hb dX0_restore_4 (by decide) (fun c1 => ?_) (fun c1 => ?_)
  · exact e_v hf hr hlocks hw ((if_pos c1).trans rfl) dX0_restore_42
  · refine lv_aload_n hx hb dX0_restore_7 rfl (lv_at hl 0 rfl) ?_
    refine g_f hw hf (by decide) (c_Hi E _) rfl inlX0 0 (by decide) rfl q396 rfl dX0_restore_8 ?_
    refine lv_aload_n hx hb dX0_restore_11 rfl (lv_at hl 0 rfl) ?_
    refine g_f hw hf (by decide) (c_Hi E _) rfl inlX0 1 (by decide) rfl q78 rfl dX0_restore_12 ?_
    refine g_n hw hf (by decide) (c_Hk E _) (t0 := 4) (v := 4) rfl rfl dX0_restore_15 ?_
    refine lv_icmp_gt (tgt := 42) hx hb dX0_restore_16 (by decide) (fun c2 => ?_) (fun c2 => ?_)
    · exact e_v hf hr hlocks hw ((if_neg c1).trans ((if_pos c2).trans rfl)) dX0_restore_42
    · refine lv_aload_n hx hb dX0_restore_19 rfl (lv_at hl 0 rfl) ?_
      refine lv_dup hx hb dX0_restore_20 rfl ?_
      refine g_f hw hf (by decide) (c_Hi E _) rfl inlX0 0 (by decide) rfl q396 rfl dX0_restore_21 ?_
      refine lv_iconst (v := 1) hx hb dX0_restore_24 (by decide) ?_
      refine lv_isub hx hb dX0_restore_25 ?_
      refine p_f hw hf (by decide) (c_Hi E _) rfl inlX0 tyX0_ok nmX0 0 (by decide) rfl q396 rfl rfl rfl (Nat.le_of_ble_eq_true rfl) (s_Hi_0 E _ _) dX0_restore_26 (fun H locs hw => ?_)
      refine lv_aload_n hx hb dX0_restore_29 rfl (lv_at hl 1 rfl) ?_
      refine lv_aload_n hx hb dX0_restore_30 rfl (lv_at hl 0 rfl) ?_
      refine g_f hw hf (by decide) (c_Hi E _) rfl inlX0 1 (by decide) rfl q78 rfl dX0_restore_31 ?_
      refine lv_aload_n hx hb dX0_restore_34 rfl (lv_at hl 0 rfl) ?_
      refine g_f hw hf (by decide) (c_Hi E _) rfl inlX0 0 (by decide) rfl q396 (congrArg (fun z => some (Value.int z)) (show _ = (μ.1 6 0) - 1 from (by first | (simp [pM, pJ, upM, upJ, sF, tN, tD, tR]; done) | (simp (disch := (first | omega | (simp only [tN, tD, tR, sF]; omega))) only [pM, pJ, upM_s, upM_k, upM_c, upJ_s, upJ_k, upJ_c])))) dX0_restore_35 ?_
      refine g_q hw hf (by decide) (c_Hk E _) (t0 := 4) rfl (vin_pred 4 (by decide) rfl c1 c2) ((rf_K (y := ((μ.1 6 0) - 1).toNatClampNeg) (vin_lt (vin_pred 4 (by decide) rfl c1 c2)) rfl).trans (congrArg (fun z => Value.ref (E.1 (iS z))) (show _ = μ.2.2 (((μ.1 6 0) - 1).toNatClampNeg) from by simp [pK, pM, va_up]))) dX0_restore_38 ?_
      refine c_v hw (run_V (As := [.ref (E.1 (iS (μ.2.2 (((μ.1 6 0) - 1).toNatClampNeg))))]) (rest := []) (np := 1) hf hw (k_X4_copy l E _ (by decide) (hK (((μ.1 6 0) - 1).toNatClampNeg) (vin_lt (vin_pred 4 (by decide) rfl c1 c2))).2  (Ne.symm (ne_K0 ((hK (((μ.1 6 0) - 1).toNatClampNeg) (vin_lt (vin_pred 4 (by decide) rfl c1 c2)))).1)) ) ⟨gl_V q401 q402 q403 q22 q404, by decide +kernel⟩ ⟨rfl, rfl, Nat.le_of_ble_eq_true rfl, Nat.le_of_ble_eq_true rfl⟩ (lt_iS (by decide)) (c_iS E _ (by decide)) rfl rfl hl.1 rfl (Nat.le_of_ble_eq_true rfl) dX0_restore_39 ⟨Nat.zero_le _, Nat.zero_le _⟩) (fun H locs hw => ?_)
      exact e_v hf hr hlocks hw ((if_neg c1).trans ((if_neg c2).trans rfl)) dX0_restore_42
