/-! ===== the reference: orders ===== -/
def sp_X8_does (μ : Mu)  (ch : Int32) : Int32 × Mu :=
  if (ch : Int32) = 98 then
    ((sp_X8_cuts μ  (μ.1 13 0) (μ.1 13 1) (1 : Int32)).1, (sp_X8_cuts μ  (μ.1 13 0) (μ.1 13 1) (1 : Int32)).2)
  else
    if (ch : Int32) = 109 then
      ((sp_X8_cuts μ  (μ.1 13 0) (μ.1 13 1) (0 : Int32)).1, (sp_X8_cuts μ  (μ.1 13 0) (μ.1 13 1) (0 : Int32)).2)
    else
      if (ch : Int32) = 114 then
        ((sp_X8_reads μ  (μ.1 13 0)).1, (sp_X8_reads μ  (μ.1 13 0)).2)
      else
        if (ch : Int32) = 116 then
          ((sp_X8_baths μ  (μ.1 13 0) (μ.1 13 1)).1, (sp_X8_baths μ  (μ.1 13 0) (μ.1 13 1)).2)
        else
          ((sp_X8_scans μ  ).1, (sp_X8_scans μ  ).2)
set_option maxHeartbeats 4000000 in
set_option maxRecDepth 100000 in
theorem k_X8_does (l : Launch) (E : En) (μ : Mu)  (ch : Int32) (hG : RG (μ.1 8)) (hSa : ∀ n, n < (μ.1 8 1).toNatClampNeg → RS (μ.1 8) n) : MtI l yX8_does cX8_does 2 .int ({ frames := 13, cells := 0, slots := 0, locals := 318 }) [.ref (E.1 (232)), .int (ch)] E μ (sp_X8_does μ ch) := by
  refine mt_of (by decide +kernel) (Nat.le_of_ble_eq_true rfl) ?_
  intro p e s m args below meth c ls hf hr hlocks hl hw
  have hx := hf.1
  have hb := hf.2.1
  have hl : lv_has ls 2 [(0, .ref (E.1 (232))), (1, .int (ch))] := hl
  have hI := hG.1
  refine lv_iload_n hx hb dX8_does_0 rfl (lv_at hl 1 rfl) ?_
  by_cases c1 : ch = 98
  · refine lv_lookup (off := 71) (tgt := 72) hx hb dX8_does_1 (by decide) (by rw [c1]; decide) (by decide) ?_
    refine lv_aload_n hx hb dX8_does_72 rfl (lv_at hl 0 rfl) ?_
    refine lv_aload_n hx hb dX8_does_73 rfl (lv_at hl 0 rfl) ?_
    refine g_f hw hf (by decide) (c_R E _) rfl inlX8 9 (by decide) rfl q95 rfl dX8_does_74 ?_
    refine lv_iconst (v := 0) hx hb dX8_does_77 (by decide) ?_
    refine g_a hw hf (by decide) (c_Rg E _) (vp_lit 0 2 (by decide) (by decide)) (tr_at (y := 0) (by decide) (by decide)) dX8_does_78 ?_
    refine lv_aload_n hx hb dX8_does_79 rfl (lv_at hl 0 rfl) ?_
    refine g_f hw hf (by decide) (c_R E _) rfl inlX8 9 (by decide) rfl q95 rfl dX8_does_80 ?_
    refine lv_iconst (v := 1) hx hb dX8_does_83 (by decide) ?_
    refine g_a hw hf (by decide) (c_Rg E _) (vp_lit 1 2 (by decide) (by decide)) (tr_at (y := 1) (by decide) (by decide)) dX8_does_84 ?_
    refine lv_iconst (v := 1) hx hb dX8_does_85 (by decide) ?_
    refine c_i hw (run_V (As := [.int (μ.1 13 0), .int (μ.1 13 1), .int 1]) (rest := []) (np := 3) hf hw (k_X8_cuts l E _  (μ.1 13 0) (μ.1 13 1) (1 : Int32)  hI) ⟨gl_V q488 q489 q490 q5 q491, by decide +kernel⟩ ⟨rfl, rfl, Nat.le_of_ble_eq_true rfl, Nat.le_of_ble_eq_true rfl⟩ (by decide) (c_R E _) rfl rfl hl.1 rfl (Nat.le_of_ble_eq_true rfl) dX8_does_86 ⟨Nat.zero_le _, Nat.zero_le _⟩) (fun H locs hw => ?_)
    exact e_i hf hr hlocks hw rfl ((if_pos c1).trans rfl) dX8_does_89
  · skip
    by_cases c2 : ch = 109
    · refine lv_lookup (off := 89) (tgt := 90) hx hb dX8_does_1 (by decide) (by rw [c2]; decide) (by decide) ?_
      refine lv_aload_n hx hb dX8_does_90 rfl (lv_at hl 0 rfl) ?_
      refine lv_aload_n hx hb dX8_does_91 rfl (lv_at hl 0 rfl) ?_
      refine g_f hw hf (by decide) (c_R E _) rfl inlX8 9 (by decide) rfl q95 rfl dX8_does_92 ?_
      refine lv_iconst (v := 0) hx hb dX8_does_95 (by decide) ?_
      refine g_a hw hf (by decide) (c_Rg E _) (vp_lit 0 2 (by decide) (by decide)) (tr_at (y := 0) (by decide) (by decide)) dX8_does_96 ?_
      refine lv_aload_n hx hb dX8_does_97 rfl (lv_at hl 0 rfl) ?_
      refine g_f hw hf (by decide) (c_R E _) rfl inlX8 9 (by decide) rfl q95 rfl dX8_does_98 ?_
      refine lv_iconst (v := 1) hx hb dX8_does_101 (by decide) ?_
      refine g_a hw hf (by decide) (c_Rg E _) (vp_lit 1 2 (by decide) (by decide)) (tr_at (y := 1) (by decide) (by decide)) dX8_does_102 ?_
      refine lv_iconst (v := 0) hx hb dX8_does_103 (by decide) ?_
      refine c_i hw (run_V (As := [.int (μ.1 13 0), .int (μ.1 13 1), .int 0]) (rest := []) (np := 3) hf hw (k_X8_cuts l E _  (μ.1 13 0) (μ.1 13 1) (0 : Int32)  hI) ⟨gl_V q488 q489 q490 q5 q491, by decide +kernel⟩ ⟨rfl, rfl, Nat.le_of_ble_eq_true rfl, Nat.le_of_ble_eq_true rfl⟩ (by decide) (c_R E _) rfl rfl hl.1 rfl (Nat.le_of_ble_eq_true rfl) dX8_does_104 ⟨Nat.zero_le _, Nat.zero_le _⟩) (fun H locs hw => ?_)
      exact e_i hf hr hlocks hw rfl ((if_neg c1).trans ((if_pos c2).trans rfl)) dX8_does_107
    · skip
      by_cases c3 : ch = 114
      · refine lv_lookup (off := 60) (tgt := 61) hx hb dX8_does_1 (by decide) (by rw [c3]; decide) (by decide) ?_
        refine lv_aload_n hx hb dX8_does_61 rfl (lv_at hl 0 rfl) ?_
        refine lv_aload_n hx hb dX8_does_62 rfl (lv_at hl 0 rfl) ?_
        refine g_f hw hf (by decide) (c_R E _) rfl inlX8 9 (by decide) rfl q95 rfl dX8_does_63 ?_
        refine lv_iconst (v := 0) hx hb dX8_does_66 (by decide) ?_
        refine g_a hw hf (by decide) (c_Rg E _) (vp_lit 0 2 (by decide) (by decide)) (tr_at (y := 0) (by decide) (by decide)) dX8_does_67 ?_
        refine c_i hw (run_V (As := [.int (μ.1 13 0)]) (rest := []) (np := 1) hf hw (k_X8_reads l E _  (μ.1 13 0)  hG hSa) ⟨gl_V q785 q786 q787 q5 q788, by decide +kernel⟩ ⟨rfl, rfl, Nat.le_of_ble_eq_true rfl, Nat.le_of_ble_eq_true rfl⟩ (by decide) (c_R E _) rfl rfl hl.1 rfl (Nat.le_of_ble_eq_true rfl) dX8_does_68 ⟨Nat.zero_le _, Nat.zero_le _⟩) (fun H locs hw => ?_)
        exact e_i hf hr hlocks hw rfl ((if_neg c1).trans ((if_neg c2).trans ((if_pos c3).trans rfl))) dX8_does_71
      · skip
        by_cases c4 : ch = 116
        · refine lv_lookup (off := 43) (tgt := 44) hx hb dX8_does_1 (by decide) (by rw [c4]; decide) (by decide) ?_
          refine lv_aload_n hx hb dX8_does_44 rfl (lv_at hl 0 rfl) ?_
          refine lv_aload_n hx hb dX8_does_45 rfl (lv_at hl 0 rfl) ?_
          refine g_f hw hf (by decide) (c_R E _) rfl inlX8 9 (by decide) rfl q95 rfl dX8_does_46 ?_
          refine lv_iconst (v := 0) hx hb dX8_does_49 (by decide) ?_
          refine g_a hw hf (by decide) (c_Rg E _) (vp_lit 0 2 (by decide) (by decide)) (tr_at (y := 0) (by decide) (by decide)) dX8_does_50 ?_
          refine lv_aload_n hx hb dX8_does_51 rfl (lv_at hl 0 rfl) ?_
          refine g_f hw hf (by decide) (c_R E _) rfl inlX8 9 (by decide) rfl q95 rfl dX8_does_52 ?_
          refine lv_iconst (v := 1) hx hb dX8_does_55 (by decide) ?_
          refine g_a hw hf (by decide) (c_Rg E _) (vp_lit 1 2 (by decide) (by decide)) (tr_at (y := 1) (by decide) (by decide)) dX8_does_56 ?_
          refine c_i hw (run_V (As := [.int (μ.1 13 0), .int (μ.1 13 1)]) (rest := []) (np := 2) hf hw (k_X8_baths l E _  (μ.1 13 0) (μ.1 13 1)  hI) ⟨gl_V q412 q413 q414 q5 q415, by decide +kernel⟩ ⟨rfl, rfl, Nat.le_of_ble_eq_true rfl, Nat.le_of_ble_eq_true rfl⟩ (by decide) (c_R E _) rfl rfl hl.1 rfl (Nat.le_of_ble_eq_true rfl) dX8_does_57 ⟨Nat.zero_le _, Nat.zero_le _⟩) (fun H locs hw => ?_)
          exact e_i hf hr hlocks hw rfl ((if_neg c1).trans ((if_neg c2).trans ((if_neg c3).trans ((if_pos c4).trans rfl)))) dX8_does_60
        · skip
          refine lv_lookup (off := 107) (tgt := 108) hx hb dX8_does_1 (by decide) ((lv_osw c1 (by decide)).trans ((lv_osw c2 (by decide)).trans ((lv_osw c3 (by decide)).trans ((lv_osw c4 (by decide)).trans rfl)))) (by decide) ?_
          refine lv_aload_n hx hb dX8_does_108 rfl (lv_at hl 0 rfl) ?_
          refine c_i hw (run_V (As := []) (rest := []) (np := 0) hf hw (k_X8_scans l E _    hG hSa) ⟨gl_V q806 q807 q808 q5 q809, by decide +kernel⟩ ⟨rfl, rfl, Nat.le_of_ble_eq_true rfl, Nat.le_of_ble_eq_true rfl⟩ (by decide) (c_R E _) rfl rfl hl.1 rfl (Nat.le_of_ble_eq_true rfl) dX8_does_109 ⟨Nat.zero_le _, Nat.zero_le _⟩) (fun H locs hw => ?_)
          exact e_i hf hr hlocks hw rfl ((if_neg c1).trans ((if_neg c2).trans ((if_neg c3).trans ((if_neg c4).trans rfl)))) dX8_does_112
theorem at_70 {m : Mu} (h : ni 61 (m.1 7 1)) : AT (pM m 7 2 (0 : Int32)) := by
  refine ⟨?_, ?_⟩
  · have e : (pM m 7 2 (0 : Int32)).1 7 1 = m.1 7 1 := by simp [pM, upM]
    rw [e]; exact h
  · have e : (pM m 7 2 (0 : Int32)).1 7 2 = nI 0 := by simp [pM, upM]; rfl
    rw [e]; exact ni_nI (by decide) (by decide)
theorem at_73 {m : Mu} {v : Int32} (h : AT m) : AT (pM m 7 3 v) := by
  unfold AT at h ⊢
  have e1 : (pM m 7 3 v).1 7 1 = m.1 7 1 := by simp [pM, upM]
  have e2 : (pM m 7 3 v).1 7 2 = m.1 7 2 := by simp [pM, upM]
  rw [e1, e2]; exact h
theorem rga_X8_passes  (μ : Mu)  (ch : Int32)  (hh : RGA μ) : RGA ((sp_X8_passes μ ch).2) := by
  unfold sp_X8_passes
  exact (rga_ite (rga_lf (rga_pM (by decide) hh)) (rga_ite (rga_lf (rga_pM (by decide) hh)) (rga_lf (rga_pM (by decide) hh))))
theorem rga_lp_X8_takes_12  (μ : Mu)  (k : Nat)  (f : Nat) : ∀  (μ1 : Mu), RGA μ1 → RGA ((lp_X8_takes_12 μ k  f  μ1).2) := by
  induction f with
  | zero => intro  μ1 h1; exact h1
  | succ f ih =>
    intro  μ1 h1
    unfold lp_X8_takes_12
    exact (rga_ite (rga_ite (rga_lf h1) (rga_lf h1)) (rga_ite (rga_ite (rga_lf h1) (rga_lf h1)) (rga_ite (ih _ (rga_pM (by decide) (rga_pM (by decide) h1))) (rga_ite (rga_lf h1) (rga_lf h1)))))
theorem rga_X8_takes  (μ : Mu)  (k : Nat)  (hh : RGA μ) : RGA ((sp_X8_takes μ k).2) := by
  unfold sp_X8_takes
  exact (rga_lp_X8_takes_12 _ _ _ _ (rga_pM (by decide) hh))
theorem rga_X8_readsForm  (μ : Mu)  (ch : Int32)  (hh : RGA μ) : RGA ((sp_X8_readsForm μ ch).2) := by
  unfold sp_X8_readsForm
  exact (rga_ite (rga_ite (rga_lf (rga_X8_passes μ (59 : Int32)  hh)) (rga_lf (rga_X8_passes μ (59 : Int32)  hh))) (rga_ite (rga_ite (rga_lf (rga_X8_takes μ 0  hh)) (rga_ite (rga_lf (rga_X8_passes ((sp_X8_takes μ  0).2) (59 : Int32)  (rga_X8_takes μ 0  hh))) (rga_lf (rga_X8_passes ((sp_X8_takes μ  0).2) (59 : Int32)  (rga_X8_takes μ 0  hh))))) (rga_ite (rga_ite (rga_lf (rga_X8_takes μ 0  hh)) (rga_ite (rga_lf (rga_pM (by decide) (rga_X8_passes ((sp_X8_takes μ  0).2) (44 : Int32)  (rga_X8_takes μ 0  hh)))) (rga_ite (rga_ite (rga_lf (rga_pM (by decide) (rga_X8_takes ((sp_X8_passes ((sp_X8_passes ((sp_X8_takes μ  0).2)  (44 : Int32)).2)  (45 : Int32)).2) 1  (rga_X8_passes ((sp_X8_passes ((sp_X8_takes μ  0).2)  (44 : Int32)).2) (45 : Int32)  (rga_X8_passes ((sp_X8_takes μ  0).2) (44 : Int32)  (rga_X8_takes μ 0  hh)))))) (rga_ite (rga_lf (rga_X8_passes (pM ((sp_X8_takes ((sp_X8_passes ((sp_X8_passes ((sp_X8_takes μ  0).2)  (44 : Int32)).2)  (45 : Int32)).2)  1).2) 13 1 (((sp_X8_takes ((sp_X8_passes ((sp_X8_passes ((sp_X8_takes μ  0).2)  (44 : Int32)).2)  (45 : Int32)).2)  1).2).1 13 1)) (59 : Int32)  (rga_pM (by decide) (rga_X8_takes ((sp_X8_passes ((sp_X8_passes ((sp_X8_takes μ  0).2)  (44 : Int32)).2)  (45 : Int32)).2) 1  (rga_X8_passes ((sp_X8_passes ((sp_X8_takes μ  0).2)  (44 : Int32)).2) (45 : Int32)  (rga_X8_passes ((sp_X8_takes μ  0).2) (44 : Int32)  (rga_X8_takes μ 0  hh))))))) (rga_lf (rga_X8_passes (pM ((sp_X8_takes ((sp_X8_passes ((sp_X8_passes ((sp_X8_takes μ  0).2)  (44 : Int32)).2)  (45 : Int32)).2)  1).2) 13 1 (((sp_X8_takes ((sp_X8_passes ((sp_X8_passes ((sp_X8_takes μ  0).2)  (44 : Int32)).2)  (45 : Int32)).2)  1).2).1 13 1)) (59 : Int32)  (rga_pM (by decide) (rga_X8_takes ((sp_X8_passes ((sp_X8_passes ((sp_X8_takes μ  0).2)  (44 : Int32)).2)  (45 : Int32)).2) 1  (rga_X8_passes ((sp_X8_passes ((sp_X8_takes μ  0).2)  (44 : Int32)).2) (45 : Int32)  (rga_X8_passes ((sp_X8_takes μ  0).2) (44 : Int32)  (rga_X8_takes μ 0  hh))))))))) (rga_ite (rga_lf (rga_pM (by decide) (rga_X8_takes ((sp_X8_passes ((sp_X8_passes ((sp_X8_takes μ  0).2)  (44 : Int32)).2)  (45 : Int32)).2) 1  (rga_X8_passes ((sp_X8_passes ((sp_X8_takes μ  0).2)  (44 : Int32)).2) (45 : Int32)  (rga_X8_passes ((sp_X8_takes μ  0).2) (44 : Int32)  (rga_X8_takes μ 0  hh)))))) (rga_ite (rga_lf (rga_X8_passes (pM ((sp_X8_takes ((sp_X8_passes ((sp_X8_passes ((sp_X8_takes μ  0).2)  (44 : Int32)).2)  (45 : Int32)).2)  1).2) 13 1 (-(((sp_X8_takes ((sp_X8_passes ((sp_X8_passes ((sp_X8_takes μ  0).2)  (44 : Int32)).2)  (45 : Int32)).2)  1).2).1 13 1))) (59 : Int32)  (rga_pM (by decide) (rga_X8_takes ((sp_X8_passes ((sp_X8_passes ((sp_X8_takes μ  0).2)  (44 : Int32)).2)  (45 : Int32)).2) 1  (rga_X8_passes ((sp_X8_passes ((sp_X8_takes μ  0).2)  (44 : Int32)).2) (45 : Int32)  (rga_X8_passes ((sp_X8_takes μ  0).2) (44 : Int32)  (rga_X8_takes μ 0  hh))))))) (rga_lf (rga_X8_passes (pM ((sp_X8_takes ((sp_X8_passes ((sp_X8_passes ((sp_X8_takes μ  0).2)  (44 : Int32)).2)  (45 : Int32)).2)  1).2) 13 1 (-(((sp_X8_takes ((sp_X8_passes ((sp_X8_passes ((sp_X8_takes μ  0).2)  (44 : Int32)).2)  (45 : Int32)).2)  1).2).1 13 1))) (59 : Int32)  (rga_pM (by decide) (rga_X8_takes ((sp_X8_passes ((sp_X8_passes ((sp_X8_takes μ  0).2)  (44 : Int32)).2)  (45 : Int32)).2) 1  (rga_X8_passes ((sp_X8_passes ((sp_X8_takes μ  0).2)  (44 : Int32)).2) (45 : Int32)  (rga_X8_passes ((sp_X8_takes μ  0).2) (44 : Int32)  (rga_X8_takes μ 0  hh)))))))))))) (rga_ite (rga_ite (rga_lf (rga_X8_takes μ 0  hh)) (rga_ite (rga_lf (rga_pM (by decide) (rga_X8_passes ((sp_X8_takes μ  0).2) (44 : Int32)  (rga_X8_takes μ 0  hh)))) (rga_ite (rga_lf (rga_pM (by decide) (rga_X8_takes ((sp_X8_passes ((sp_X8_takes μ  0).2)  (44 : Int32)).2) 1  (rga_X8_passes ((sp_X8_takes μ  0).2) (44 : Int32)  (rga_X8_takes μ 0  hh))))) (rga_ite (rga_lf (rga_X8_passes (pM ((sp_X8_takes ((sp_X8_passes ((sp_X8_takes μ  0).2)  (44 : Int32)).2)  1).2) 13 1 (((sp_X8_takes ((sp_X8_passes ((sp_X8_takes μ  0).2)  (44 : Int32)).2)  1).2).1 13 1)) (59 : Int32)  (rga_pM (by decide) (rga_X8_takes ((sp_X8_passes ((sp_X8_takes μ  0).2)  (44 : Int32)).2) 1  (rga_X8_passes ((sp_X8_takes μ  0).2) (44 : Int32)  (rga_X8_takes μ 0  hh)))))) (rga_lf (rga_X8_passes (pM ((sp_X8_takes ((sp_X8_passes ((sp_X8_takes μ  0).2)  (44 : Int32)).2)  1).2) 13 1 (((sp_X8_takes ((sp_X8_passes ((sp_X8_takes μ  0).2)  (44 : Int32)).2)  1).2).1 13 1)) (59 : Int32)  (rga_pM (by decide) (rga_X8_takes ((sp_X8_passes ((sp_X8_takes μ  0).2)  (44 : Int32)).2) 1  (rga_X8_passes ((sp_X8_takes μ  0).2) (44 : Int32)  (rga_X8_takes μ 0  hh)))))))))) (rga_ite (rga_ite (rga_lf (rga_X8_takes μ 0  hh)) (rga_ite (rga_lf (rga_pM (by decide) (rga_X8_passes ((sp_X8_takes μ  0).2) (44 : Int32)  (rga_X8_takes μ 0  hh)))) (rga_ite (rga_lf (rga_pM (by decide) (rga_X8_takes ((sp_X8_passes ((sp_X8_takes μ  0).2)  (44 : Int32)).2) 1  (rga_X8_passes ((sp_X8_takes μ  0).2) (44 : Int32)  (rga_X8_takes μ 0  hh))))) (rga_ite (rga_lf (rga_X8_passes (pM ((sp_X8_takes ((sp_X8_passes ((sp_X8_takes μ  0).2)  (44 : Int32)).2)  1).2) 13 1 (((sp_X8_takes ((sp_X8_passes ((sp_X8_takes μ  0).2)  (44 : Int32)).2)  1).2).1 13 1)) (59 : Int32)  (rga_pM (by decide) (rga_X8_takes ((sp_X8_passes ((sp_X8_takes μ  0).2)  (44 : Int32)).2) 1  (rga_X8_passes ((sp_X8_takes μ  0).2) (44 : Int32)  (rga_X8_takes μ 0  hh)))))) (rga_lf (rga_X8_passes (pM ((sp_X8_takes ((sp_X8_passes ((sp_X8_takes μ  0).2)  (44 : Int32)).2)  1).2) 13 1 (((sp_X8_takes ((sp_X8_passes ((sp_X8_takes μ  0).2)  (44 : Int32)).2)  1).2).1 13 1)) (59 : Int32)  (rga_pM (by decide) (rga_X8_takes ((sp_X8_passes ((sp_X8_takes μ  0).2)  (44 : Int32)).2) 1  (rga_X8_passes ((sp_X8_takes μ  0).2) (44 : Int32)  (rga_X8_takes μ 0  hh)))))))))) (rga_lf hh))))))
theorem atp_X8_readsForm  (μ : Mu)  (ch : Int32)  (hh : AT μ) : AT ((sp_X8_readsForm μ ch).2) := by
  unfold sp_X8_readsForm
  exact (atp_ite (atp_ite (atp_lf (atp_X8_passes μ (59 : Int32)  hh)) (atp_lf (atp_X8_passes μ (59 : Int32)  hh))) (atp_ite (atp_ite (atp_lf (atp_X8_takes μ 0  hh)) (atp_ite (atp_lf (atp_X8_passes ((sp_X8_takes μ  0).2) (59 : Int32)  (atp_X8_takes μ 0  hh))) (atp_lf (atp_X8_passes ((sp_X8_takes μ  0).2) (59 : Int32)  (atp_X8_takes μ 0  hh))))) (atp_ite (atp_ite (atp_lf (atp_X8_takes μ 0  hh)) (atp_ite (atp_lf (at_pM (by decide) (atp_X8_passes ((sp_X8_takes μ  0).2) (44 : Int32)  (atp_X8_takes μ 0  hh)))) (atp_ite (atp_ite (atp_lf (at_pM (by decide) (atp_X8_takes ((sp_X8_passes ((sp_X8_passes ((sp_X8_takes μ  0).2)  (44 : Int32)).2)  (45 : Int32)).2) 1  (atp_X8_passes ((sp_X8_passes ((sp_X8_takes μ  0).2)  (44 : Int32)).2) (45 : Int32)  (atp_X8_passes ((sp_X8_takes μ  0).2) (44 : Int32)  (atp_X8_takes μ 0  hh)))))) (atp_ite (atp_lf (atp_X8_passes (pM ((sp_X8_takes ((sp_X8_passes ((sp_X8_passes ((sp_X8_takes μ  0).2)  (44 : Int32)).2)  (45 : Int32)).2)  1).2) 13 1 (((sp_X8_takes ((sp_X8_passes ((sp_X8_passes ((sp_X8_takes μ  0).2)  (44 : Int32)).2)  (45 : Int32)).2)  1).2).1 13 1)) (59 : Int32)  (at_pM (by decide) (atp_X8_takes ((sp_X8_passes ((sp_X8_passes ((sp_X8_takes μ  0).2)  (44 : Int32)).2)  (45 : Int32)).2) 1  (atp_X8_passes ((sp_X8_passes ((sp_X8_takes μ  0).2)  (44 : Int32)).2) (45 : Int32)  (atp_X8_passes ((sp_X8_takes μ  0).2) (44 : Int32)  (atp_X8_takes μ 0  hh))))))) (atp_lf (atp_X8_passes (pM ((sp_X8_takes ((sp_X8_passes ((sp_X8_passes ((sp_X8_takes μ  0).2)  (44 : Int32)).2)  (45 : Int32)).2)  1).2) 13 1 (((sp_X8_takes ((sp_X8_passes ((sp_X8_passes ((sp_X8_takes μ  0).2)  (44 : Int32)).2)  (45 : Int32)).2)  1).2).1 13 1)) (59 : Int32)  (at_pM (by decide) (atp_X8_takes ((sp_X8_passes ((sp_X8_passes ((sp_X8_takes μ  0).2)  (44 : Int32)).2)  (45 : Int32)).2) 1  (atp_X8_passes ((sp_X8_passes ((sp_X8_takes μ  0).2)  (44 : Int32)).2) (45 : Int32)  (atp_X8_passes ((sp_X8_takes μ  0).2) (44 : Int32)  (atp_X8_takes μ 0  hh))))))))) (atp_ite (atp_lf (at_pM (by decide) (atp_X8_takes ((sp_X8_passes ((sp_X8_passes ((sp_X8_takes μ  0).2)  (44 : Int32)).2)  (45 : Int32)).2) 1  (atp_X8_passes ((sp_X8_passes ((sp_X8_takes μ  0).2)  (44 : Int32)).2) (45 : Int32)  (atp_X8_passes ((sp_X8_takes μ  0).2) (44 : Int32)  (atp_X8_takes μ 0  hh)))))) (atp_ite (atp_lf (atp_X8_passes (pM ((sp_X8_takes ((sp_X8_passes ((sp_X8_passes ((sp_X8_takes μ  0).2)  (44 : Int32)).2)  (45 : Int32)).2)  1).2) 13 1 (-(((sp_X8_takes ((sp_X8_passes ((sp_X8_passes ((sp_X8_takes μ  0).2)  (44 : Int32)).2)  (45 : Int32)).2)  1).2).1 13 1))) (59 : Int32)  (at_pM (by decide) (atp_X8_takes ((sp_X8_passes ((sp_X8_passes ((sp_X8_takes μ  0).2)  (44 : Int32)).2)  (45 : Int32)).2) 1  (atp_X8_passes ((sp_X8_passes ((sp_X8_takes μ  0).2)  (44 : Int32)).2) (45 : Int32)  (atp_X8_passes ((sp_X8_takes μ  0).2) (44 : Int32)  (atp_X8_takes μ 0  hh))))))) (atp_lf (atp_X8_passes (pM ((sp_X8_takes ((sp_X8_passes ((sp_X8_passes ((sp_X8_takes μ  0).2)  (44 : Int32)).2)  (45 : Int32)).2)  1).2) 13 1 (-(((sp_X8_takes ((sp_X8_passes ((sp_X8_passes ((sp_X8_takes μ  0).2)  (44 : Int32)).2)  (45 : Int32)).2)  1).2).1 13 1))) (59 : Int32)  (at_pM (by decide) (atp_X8_takes ((sp_X8_passes ((sp_X8_passes ((sp_X8_takes μ  0).2)  (44 : Int32)).2)  (45 : Int32)).2) 1  (atp_X8_passes ((sp_X8_passes ((sp_X8_takes μ  0).2)  (44 : Int32)).2) (45 : Int32)  (atp_X8_passes ((sp_X8_takes μ  0).2) (44 : Int32)  (atp_X8_takes μ 0  hh)))))))))))) (atp_ite (atp_ite (atp_lf (atp_X8_takes μ 0  hh)) (atp_ite (atp_lf (at_pM (by decide) (atp_X8_passes ((sp_X8_takes μ  0).2) (44 : Int32)  (atp_X8_takes μ 0  hh)))) (atp_ite (atp_lf (at_pM (by decide) (atp_X8_takes ((sp_X8_passes ((sp_X8_takes μ  0).2)  (44 : Int32)).2) 1  (atp_X8_passes ((sp_X8_takes μ  0).2) (44 : Int32)  (atp_X8_takes μ 0  hh))))) (atp_ite (atp_lf (atp_X8_passes (pM ((sp_X8_takes ((sp_X8_passes ((sp_X8_takes μ  0).2)  (44 : Int32)).2)  1).2) 13 1 (((sp_X8_takes ((sp_X8_passes ((sp_X8_takes μ  0).2)  (44 : Int32)).2)  1).2).1 13 1)) (59 : Int32)  (at_pM (by decide) (atp_X8_takes ((sp_X8_passes ((sp_X8_takes μ  0).2)  (44 : Int32)).2) 1  (atp_X8_passes ((sp_X8_takes μ  0).2) (44 : Int32)  (atp_X8_takes μ 0  hh)))))) (atp_lf (atp_X8_passes (pM ((sp_X8_takes ((sp_X8_passes ((sp_X8_takes μ  0).2)  (44 : Int32)).2)  1).2) 13 1 (((sp_X8_takes ((sp_X8_passes ((sp_X8_takes μ  0).2)  (44 : Int32)).2)  1).2).1 13 1)) (59 : Int32)  (at_pM (by decide) (atp_X8_takes ((sp_X8_passes ((sp_X8_takes μ  0).2)  (44 : Int32)).2) 1  (atp_X8_passes ((sp_X8_takes μ  0).2) (44 : Int32)  (atp_X8_takes μ 0  hh)))))))))) (atp_ite (atp_ite (atp_lf (atp_X8_takes μ 0  hh)) (atp_ite (atp_lf (at_pM (by decide) (atp_X8_passes ((sp_X8_takes μ  0).2) (44 : Int32)  (atp_X8_takes μ 0  hh)))) (atp_ite (atp_lf (at_pM (by decide) (atp_X8_takes ((sp_X8_passes ((sp_X8_takes μ  0).2)  (44 : Int32)).2) 1  (atp_X8_passes ((sp_X8_takes μ  0).2) (44 : Int32)  (atp_X8_takes μ 0  hh))))) (atp_ite (atp_lf (atp_X8_passes (pM ((sp_X8_takes ((sp_X8_passes ((sp_X8_takes μ  0).2)  (44 : Int32)).2)  1).2) 13 1 (((sp_X8_takes ((sp_X8_passes ((sp_X8_takes μ  0).2)  (44 : Int32)).2)  1).2).1 13 1)) (59 : Int32)  (at_pM (by decide) (atp_X8_takes ((sp_X8_passes ((sp_X8_takes μ  0).2)  (44 : Int32)).2) 1  (atp_X8_passes ((sp_X8_takes μ  0).2) (44 : Int32)  (atp_X8_takes μ 0  hh)))))) (atp_lf (atp_X8_passes (pM ((sp_X8_takes ((sp_X8_passes ((sp_X8_takes μ  0).2)  (44 : Int32)).2)  1).2) 13 1 (((sp_X8_takes ((sp_X8_passes ((sp_X8_takes μ  0).2)  (44 : Int32)).2)  1).2).1 13 1)) (59 : Int32)  (at_pM (by decide) (atp_X8_takes ((sp_X8_passes ((sp_X8_takes μ  0).2)  (44 : Int32)).2) 1  (atp_X8_passes ((sp_X8_takes μ  0).2) (44 : Int32)  (atp_X8_takes μ 0  hh)))))))))) (atp_lf hh))))))
theorem rga_X8_does  (μ : Mu)  (ch : Int32)  (hh : RGA μ) : RGA ((sp_X8_does μ ch).2) := by
  unfold sp_X8_does
  exact (rga_ite (rga_lf (rga_X8_cuts μ (μ.1 13 0) (μ.1 13 1) (1 : Int32)  hh)) (rga_ite (rga_lf (rga_X8_cuts μ (μ.1 13 0) (μ.1 13 1) (0 : Int32)  hh)) (rga_ite (rga_lf (rga_X8_reads μ (μ.1 13 0)  hh)) (rga_ite (rga_lf (rga_X8_baths μ (μ.1 13 0) (μ.1 13 1)  hh)) (rga_lf (rga_X8_scans μ  hh))))))
theorem atp_X8_does  (μ : Mu)  (ch : Int32)  (hh : AT μ) : AT ((sp_X8_does μ ch).2) := by
  unfold sp_X8_does
  exact (atp_ite (atp_lf (atp_X8_cuts μ (μ.1 13 0) (μ.1 13 1) (1 : Int32)  hh)) (atp_ite (atp_lf (atp_X8_cuts μ (μ.1 13 0) (μ.1 13 1) (0 : Int32)  hh)) (atp_ite (atp_lf (atp_X8_reads μ (μ.1 13 0)  hh)) (atp_ite (atp_lf (atp_X8_baths μ (μ.1 13 0) (μ.1 13 1)  hh)) (atp_lf (atp_X8_scans μ  hh))))))
def sp_X8_doesNext (μ : Mu)   : Int32 × Mu :=
  if ((sp_X8_readsForm (pM μ 7 2 (nI ((μ.1 7 2).toNatClampNeg + 1)))  (μ.1 12 ((μ.1 7 2).toNatClampNeg))).1 : Int32) = 0 then
    (1, (sp_X8_readsForm (pM μ 7 2 (nI ((μ.1 7 2).toNatClampNeg + 1)))  (μ.1 12 ((μ.1 7 2).toNatClampNeg))).2)
  else
    if (μ.1 12 ((μ.1 7 2).toNatClampNeg) : Int32) = 115 then
      if ((-2000000001) : Int32) < (sp_X8_does ((sp_X8_readsForm (pM μ 7 2 (nI ((μ.1 7 2).toNatClampNeg + 1)))  (μ.1 12 ((μ.1 7 2).toNatClampNeg))).2)  (μ.1 12 ((μ.1 7 2).toNatClampNeg))).1 then
        (0, (sp_X8_does ((sp_X8_readsForm (pM μ 7 2 (nI ((μ.1 7 2).toNatClampNeg + 1)))  (μ.1 12 ((μ.1 7 2).toNatClampNeg))).2)  (μ.1 12 ((μ.1 7 2).toNatClampNeg))).2)
      else
        (3, (sp_X8_does ((sp_X8_readsForm (pM μ 7 2 (nI ((μ.1 7 2).toNatClampNeg + 1)))  (μ.1 12 ((μ.1 7 2).toNatClampNeg))).2)  (μ.1 12 ((μ.1 7 2).toNatClampNeg))).2)
    else
      if (μ.1 12 ((μ.1 7 2).toNatClampNeg) : Int32) = 98 then
        if (0 ≤ (((sp_X8_readsForm (pM μ 7 2 (nI ((μ.1 7 2).toNatClampNeg + 1)))  (μ.1 12 ((μ.1 7 2).toNatClampNeg))).2).1 13 0) ∧ (((sp_X8_readsForm (pM μ 7 2 (nI ((μ.1 7 2).toNatClampNeg + 1)))  (μ.1 12 ((μ.1 7 2).toNatClampNeg))).2).1 13 0) ≤ (((sp_X8_readsForm (pM μ 7 2 (nI ((μ.1 7 2).toNatClampNeg + 1)))  (μ.1 12 ((μ.1 7 2).toNatClampNeg))).2).1 8 1) - 1) ∧ 0 ≤ (((sp_X8_readsForm (pM μ 7 2 (nI ((μ.1 7 2).toNatClampNeg + 1)))  (μ.1 12 ((μ.1 7 2).toNatClampNeg))).2).1 13 1) ∧ (((sp_X8_readsForm (pM μ 7 2 (nI ((μ.1 7 2).toNatClampNeg + 1)))  (μ.1 12 ((μ.1 7 2).toNatClampNeg))).2).1 13 1) ≤ (((sp_X8_readsForm (pM μ 7 2 (nI ((μ.1 7 2).toNatClampNeg + 1)))  (μ.1 12 ((μ.1 7 2).toNatClampNeg))).2).1 8 (85 + 29 * (((sp_X8_readsForm (pM μ 7 2 (nI ((μ.1 7 2).toNatClampNeg + 1)))  (μ.1 12 ((μ.1 7 2).toNatClampNeg))).2).1 13 0).toNatClampNeg + 1)) - 1 then
          if ((-2000000001) : Int32) < (sp_X8_does ((sp_X8_readsForm (pM μ 7 2 (nI ((μ.1 7 2).toNatClampNeg + 1)))  (μ.1 12 ((μ.1 7 2).toNatClampNeg))).2)  (μ.1 12 ((μ.1 7 2).toNatClampNeg))).1 then
            (0, (sp_X8_does ((sp_X8_readsForm (pM μ 7 2 (nI ((μ.1 7 2).toNatClampNeg + 1)))  (μ.1 12 ((μ.1 7 2).toNatClampNeg))).2)  (μ.1 12 ((μ.1 7 2).toNatClampNeg))).2)
          else
            (3, (sp_X8_does ((sp_X8_readsForm (pM μ 7 2 (nI ((μ.1 7 2).toNatClampNeg + 1)))  (μ.1 12 ((μ.1 7 2).toNatClampNeg))).2)  (μ.1 12 ((μ.1 7 2).toNatClampNeg))).2)
        else
          (2, (sp_X8_readsForm (pM μ 7 2 (nI ((μ.1 7 2).toNatClampNeg + 1)))  (μ.1 12 ((μ.1 7 2).toNatClampNeg))).2)
      else
        if (μ.1 12 ((μ.1 7 2).toNatClampNeg) : Int32) = 109 then
          if (0 ≤ (((sp_X8_readsForm (pM μ 7 2 (nI ((μ.1 7 2).toNatClampNeg + 1)))  (μ.1 12 ((μ.1 7 2).toNatClampNeg))).2).1 13 0) ∧ (((sp_X8_readsForm (pM μ 7 2 (nI ((μ.1 7 2).toNatClampNeg + 1)))  (μ.1 12 ((μ.1 7 2).toNatClampNeg))).2).1 13 0) ≤ (((sp_X8_readsForm (pM μ 7 2 (nI ((μ.1 7 2).toNatClampNeg + 1)))  (μ.1 12 ((μ.1 7 2).toNatClampNeg))).2).1 8 1) - 1) ∧ 0 ≤ (((sp_X8_readsForm (pM μ 7 2 (nI ((μ.1 7 2).toNatClampNeg + 1)))  (μ.1 12 ((μ.1 7 2).toNatClampNeg))).2).1 13 1) ∧ (((sp_X8_readsForm (pM μ 7 2 (nI ((μ.1 7 2).toNatClampNeg + 1)))  (μ.1 12 ((μ.1 7 2).toNatClampNeg))).2).1 13 1) ≤ (((sp_X8_readsForm (pM μ 7 2 (nI ((μ.1 7 2).toNatClampNeg + 1)))  (μ.1 12 ((μ.1 7 2).toNatClampNeg))).2).1 8 (85 + 29 * (((sp_X8_readsForm (pM μ 7 2 (nI ((μ.1 7 2).toNatClampNeg + 1)))  (μ.1 12 ((μ.1 7 2).toNatClampNeg))).2).1 13 0).toNatClampNeg + 1)) - 1 then
            if ((-2000000001) : Int32) < (sp_X8_does ((sp_X8_readsForm (pM μ 7 2 (nI ((μ.1 7 2).toNatClampNeg + 1)))  (μ.1 12 ((μ.1 7 2).toNatClampNeg))).2)  (μ.1 12 ((μ.1 7 2).toNatClampNeg))).1 then
              (0, (sp_X8_does ((sp_X8_readsForm (pM μ 7 2 (nI ((μ.1 7 2).toNatClampNeg + 1)))  (μ.1 12 ((μ.1 7 2).toNatClampNeg))).2)  (μ.1 12 ((μ.1 7 2).toNatClampNeg))).2)
            else
              (3, (sp_X8_does ((sp_X8_readsForm (pM μ 7 2 (nI ((μ.1 7 2).toNatClampNeg + 1)))  (μ.1 12 ((μ.1 7 2).toNatClampNeg))).2)  (μ.1 12 ((μ.1 7 2).toNatClampNeg))).2)
          else
            (2, (sp_X8_readsForm (pM μ 7 2 (nI ((μ.1 7 2).toNatClampNeg + 1)))  (μ.1 12 ((μ.1 7 2).toNatClampNeg))).2)
        else
          if 0 ≤ (((sp_X8_readsForm (pM μ 7 2 (nI ((μ.1 7 2).toNatClampNeg + 1)))  (μ.1 12 ((μ.1 7 2).toNatClampNeg))).2).1 13 0) ∧ (((sp_X8_readsForm (pM μ 7 2 (nI ((μ.1 7 2).toNatClampNeg + 1)))  (μ.1 12 ((μ.1 7 2).toNatClampNeg))).2).1 13 0) ≤ (((sp_X8_readsForm (pM μ 7 2 (nI ((μ.1 7 2).toNatClampNeg + 1)))  (μ.1 12 ((μ.1 7 2).toNatClampNeg))).2).1 8 1) - 1 then
            if ((-2000000001) : Int32) < (sp_X8_does ((sp_X8_readsForm (pM μ 7 2 (nI ((μ.1 7 2).toNatClampNeg + 1)))  (μ.1 12 ((μ.1 7 2).toNatClampNeg))).2)  (μ.1 12 ((μ.1 7 2).toNatClampNeg))).1 then
              (0, (sp_X8_does ((sp_X8_readsForm (pM μ 7 2 (nI ((μ.1 7 2).toNatClampNeg + 1)))  (μ.1 12 ((μ.1 7 2).toNatClampNeg))).2)  (μ.1 12 ((μ.1 7 2).toNatClampNeg))).2)
            else
              (3, (sp_X8_does ((sp_X8_readsForm (pM μ 7 2 (nI ((μ.1 7 2).toNatClampNeg + 1)))  (μ.1 12 ((μ.1 7 2).toNatClampNeg))).2)  (μ.1 12 ((μ.1 7 2).toNatClampNeg))).2)
          else
            (2, (sp_X8_readsForm (pM μ 7 2 (nI ((μ.1 7 2).toNatClampNeg + 1)))  (μ.1 12 ((μ.1 7 2).toNatClampNeg))).2)
set_option maxHeartbeats 4000000 in
set_option maxRecDepth 100000 in
theorem k_X8_doesNext (l : Launch) (E : En) (μ : Mu)   (hh : RGA μ) (ha : AT μ) (hlt : (μ.1 7 2).toNatClampNeg < 60) : MtI l yX8_doesNext cX8_doesNext 3 .int ({ frames := 14, cells := 0, slots := 0, locals := 339 }) [.ref (E.1 (232))] E μ (sp_X8_doesNext μ ) := by
  refine mt_of (by decide +kernel) (Nat.le_of_ble_eq_true rfl) ?_
  intro p e s m args below meth c ls hf hr hlocks hl hw
  have hx := hf.1
  have hb := hf.2.1
  have hl : lv_has ls 3 [(0, .ref (E.1 (232)))] := hl
  have ha2 := ha.2.2
  refine lv_aload_n hx hb dX8_doesNext_0 rfl (lv_at hl 0 rfl) ?_
  refine g_f hw hf (by decide) (c_R E _) rfl inlX8 5 (by decide) rfl q94 rfl dX8_doesNext_1 ?_
  refine lv_aload_n hx hb dX8_doesNext_4 rfl (lv_at hl 0 rfl) ?_
  refine g_f hw hf (by decide) (c_R E _) rfl inlX8 7 (by decide) rfl q993 rfl dX8_doesNext_5 ?_
  have hb1 := ha.2.2
  refine fold_i (show μ.1 7 2 = nI ((μ.1 7 2).toNatClampNeg) from ha.2.1) ?_
  refine g_c hw hf (by decide) (c_Rt E _) (vp_in_nI (show (μ.1 7 2).toNatClampNeg < 60 from (by omega)) (by decide)) (tr_at (y := (μ.1 7 2).toNatClampNeg) (by omega) (nI_clamp (Nat.lt_trans (show (μ.1 7 2).toNatClampNeg < 60 from (by omega)) (by decide)))) dX8_doesNext_8 ?_
  refine lv_istore_n (lv' := [(1, .int (μ.1 12 ((μ.1 7 2).toNatClampNeg))), (0, .ref (E.1 (232)))]) hx hb dX8_doesNext_9 rfl hl (by decide) rfl (fun ls hl => ?_)
  refine lv_aload_n hx hb dX8_doesNext_10 rfl (lv_at hl 1 rfl) ?_
  refine lv_dup hx hb dX8_doesNext_11 rfl ?_
  refine g_f hw hf (by decide) (c_R E _) rfl inlX8 7 (by decide) rfl q993 rfl dX8_doesNext_12 ?_
  refine fold_i (show μ.1 7 2 = nI ((μ.1 7 2).toNatClampNeg) from ha.2.1) ?_
  refine lv_iconst (v := 1) hx hb dX8_doesNext_15 (by decide) ?_
  refine lv_iadd hx hb dX8_doesNext_16 ?_
  refine fold_i (show nI ((μ.1 7 2).toNatClampNeg) + (1 : Int32) = nI ((μ.1 7 2).toNatClampNeg + 1) from nI_add ((μ.1 7 2).toNatClampNeg) (1)) ?_
  refine p_f hw hf (by decide) (c_R E _) rfl inlX8 tyX8_ok nmX8 7 (by decide) rfl q993 rfl rfl rfl (Nat.le_of_ble_eq_true rfl) (s_R_7 E _ _) dX8_doesNext_17 (fun H locs hw => ?_)
  refine lv_aload_n hx hb dX8_doesNext_20 rfl (lv_at hl 1 rfl) ?_
  refine lv_iload_n hx hb dX8_doesNext_21 rfl (lv_at hl 0 rfl) ?_
  refine c_i hw (run_V (As := [.int (μ.1 12 ((μ.1 7 2).toNatClampNeg))]) (rest := []) (np := 1) hf hw (k_X8_readsForm l E _  (μ.1 12 ((μ.1 7 2).toNatClampNeg))  (at_72 ha (by omega)).1 (at_72 ha (by omega)).2) ⟨gl_V q998 q999 q1000 q5 q1001, by decide +kernel⟩ ⟨rfl, rfl, Nat.le_of_ble_eq_true rfl, Nat.le_of_ble_eq_true rfl⟩ (by decide) (c_R E _) rfl rfl hl.1 rfl (Nat.le_of_ble_eq_true rfl) dX8_doesNext_22 ⟨Nat.zero_le _, Nat.zero_le _⟩) (fun H locs hw => ?_)
  refine lv_if_ne (tgt := 30) hx hb dX8_doesNext_25 (by decide) (fun c2 => ?_) (fun c2 => ?_)
  · refine lv_iload_n hx hb dX8_doesNext_30 rfl (lv_at hl 0 rfl) ?_
    refine lv_bipush (v := 115) hx hb dX8_doesNext_31 (by decide) ?_
    refine lv_icmp_eq (tgt := 83) hx hb dX8_doesNext_33 (by decide) (fun c3 => ?_) (fun c3 => ?_)
    · refine lv_iconst (v := 1) hx hb dX8_doesNext_83 (by decide) ?_
      refine lv_goto (tgt := 88) hx hb dX8_doesNext_84 (by decide) ?_
      refine lv_istore_n (lv' := [(2, .int 1), (1, .int (μ.1 12 ((μ.1 7 2).toNatClampNeg))), (0, .ref (E.1 (232)))]) hx hb dX8_doesNext_88 rfl hl (by decide) rfl (fun ls hl => ?_)
      refine lv_iload_n hx hb dX8_doesNext_89 rfl (lv_at hl 0 rfl) ?_
      refine lv_if_ne (tgt := 97) hx hb dX8_doesNext_90 (by decide) (fun _ => ?_) (fun c => absurd c (by decide))
      refine lv_aload_n hx hb dX8_doesNext_97 rfl (lv_at hl 2 rfl) ?_
      refine lv_iload_n hx hb dX8_doesNext_98 rfl (lv_at hl 1 rfl) ?_
      refine c_i hw (run_V (As := [.int (μ.1 12 ((μ.1 7 2).toNatClampNeg))]) (rest := []) (np := 1) hf hw (k_X8_does l E _  (μ.1 12 ((μ.1 7 2).toNatClampNeg))  (rga_X8_readsForm (pM μ 7 2 (nI ((μ.1 7 2).toNatClampNeg + 1))) (μ.1 12 ((μ.1 7 2).toNatClampNeg))  (rga_pM (by decide) hh)).1 (rga_X8_readsForm (pM μ 7 2 (nI ((μ.1 7 2).toNatClampNeg + 1))) (μ.1 12 ((μ.1 7 2).toNatClampNeg))  (rga_pM (by decide) hh)).2) ⟨gl_V q1010 q1011 q1012 q5 q1013, by decide +kernel⟩ ⟨rfl, rfl, Nat.le_of_ble_eq_true rfl, Nat.le_of_ble_eq_true rfl⟩ (by decide) (c_R E _) rfl rfl hl.1 rfl (Nat.le_of_ble_eq_true rfl) dX8_doesNext_99 ⟨Nat.zero_le _, Nat.zero_le _⟩) (fun H locs hw => ?_)
      refine lv_ldc hx hb hf.2.2.2.1 (hf.2.2.2.2 _ q154) dX8_doesNext_102 ?_
      refine lv_icmp_gt (tgt := 111) hx hb dX8_doesNext_104 (by decide) (fun c5 => ?_) (fun c5 => ?_)
      · refine lv_iconst (v := 0) hx hb dX8_doesNext_111 (by decide) ?_
        exact e_i hf hr hlocks hw rfl ((if_neg c2).trans ((if_pos c3).trans ((if_pos c5).trans rfl))) dX8_doesNext_112
      · refine lv_iconst (v := 3) hx hb dX8_doesNext_107 (by decide) ?_
        refine lv_goto (tgt := 112) hx hb dX8_doesNext_108 (by decide) ?_
        exact e_i hf hr hlocks hw rfl ((if_neg c2).trans ((if_pos c3).trans ((if_neg c5).trans rfl))) dX8_doesNext_112
    · refine lv_iload_n hx hb dX8_doesNext_36 rfl (lv_at hl 0 rfl) ?_
      refine lv_bipush (v := 98) hx hb dX8_doesNext_37 (by decide) ?_
      refine lv_icmp_eq (tgt := 48) hx hb dX8_doesNext_39 (by decide) (fun c6 => ?_) (fun c6 => ?_)
      · refine lv_aload_n hx hb dX8_doesNext_48 rfl (lv_at hl 1 rfl) ?_
        refine lv_aload_n hx hb dX8_doesNext_49 rfl (lv_at hl 1 rfl) ?_
        refine g_f hw hf (by decide) (c_R E _) rfl inlX8 9 (by decide) rfl q95 rfl dX8_doesNext_50 ?_
        refine lv_iconst (v := 0) hx hb dX8_doesNext_53 (by decide) ?_
        refine g_a hw hf (by decide) (c_Rg E _) (vp_lit 0 2 (by decide) (by decide)) (tr_at (y := 0) (by decide) (by decide)) dX8_doesNext_54 ?_
        refine lv_aload_n hx hb dX8_doesNext_55 rfl (lv_at hl 1 rfl) ?_
        refine g_f hw hf (by decide) (c_R E _) rfl inlX8 9 (by decide) rfl q95 rfl dX8_doesNext_56 ?_
        refine lv_iconst (v := 1) hx hb dX8_doesNext_59 (by decide) ?_
        refine g_a hw hf (by decide) (c_Rg E _) (vp_lit 1 2 (by decide) (by decide)) (tr_at (y := 1) (by decide) (by decide)) dX8_doesNext_60 ?_
        refine c_iR hw (run_V (As := [.int (((sp_X8_readsForm (pM μ 7 2 (nI ((μ.1 7 2).toNatClampNeg + 1)))  (μ.1 12 ((μ.1 7 2).toNatClampNeg))).2).1 13 0), .int (((sp_X8_readsForm (pM μ 7 2 (nI ((μ.1 7 2).toNatClampNeg + 1)))  (μ.1 12 ((μ.1 7 2).toNatClampNeg))).2).1 13 1)]) (rest := []) (np := 2) hf hw (kn_X8_isWire l E _  (((sp_X8_readsForm (pM μ 7 2 (nI ((μ.1 7 2).toNatClampNeg + 1)))  (μ.1 12 ((μ.1 7 2).toNatClampNeg))).2).1 13 0) (((sp_X8_readsForm (pM μ 7 2 (nI ((μ.1 7 2).toNatClampNeg + 1)))  (μ.1 12 ((μ.1 7 2).toNatClampNeg))).2).1 13 1)   (rga_X8_readsForm (pM μ 7 2 (nI ((μ.1 7 2).toNatClampNeg + 1))) (μ.1 12 ((μ.1 7 2).toNatClampNeg))  (rga_pM (by decide) hh)).1.1) ⟨gl_V q438 q439 q440 q5 q441, by decide +kernel⟩ ⟨rfl, rfl, Nat.le_of_ble_eq_true rfl, Nat.le_of_ble_eq_true rfl⟩ (by decide) (c_R E _) rfl rfl hl.1 rfl (Nat.le_of_ble_eq_true rfl) dX8_doesNext_61 ⟨Nat.zero_le _, Nat.zero_le _⟩) (fun H locs hw => ?_)
        refine fold_i (y := bz ((0 ≤ (((sp_X8_readsForm (pM μ 7 2 (nI ((μ.1 7 2).toNatClampNeg + 1)))  (μ.1 12 ((μ.1 7 2).toNatClampNeg))).2).1 13 0) ∧ (((sp_X8_readsForm (pM μ 7 2 (nI ((μ.1 7 2).toNatClampNeg + 1)))  (μ.1 12 ((μ.1 7 2).toNatClampNeg))).2).1 13 0) ≤ (((sp_X8_readsForm (pM μ 7 2 (nI ((μ.1 7 2).toNatClampNeg + 1)))  (μ.1 12 ((μ.1 7 2).toNatClampNeg))).2).1 8 1) - 1) ∧ 0 ≤ (((sp_X8_readsForm (pM μ 7 2 (nI ((μ.1 7 2).toNatClampNeg + 1)))  (μ.1 12 ((μ.1 7 2).toNatClampNeg))).2).1 13 1) ∧ (((sp_X8_readsForm (pM μ 7 2 (nI ((μ.1 7 2).toNatClampNeg + 1)))  (μ.1 12 ((μ.1 7 2).toNatClampNeg))).2).1 13 1) ≤ (((sp_X8_readsForm (pM μ 7 2 (nI ((μ.1 7 2).toNatClampNeg + 1)))  (μ.1 12 ((μ.1 7 2).toNatClampNeg))).2).1 8 (85 + 29 * (((sp_X8_readsForm (pM μ 7 2 (nI ((μ.1 7 2).toNatClampNeg + 1)))  (μ.1 12 ((μ.1 7 2).toNatClampNeg))).2).1 13 0).toNatClampNeg + 1)) - 1)) (by first | rfl | (simp [pM, pJ, upM, upJ, upM_r, tk_M, tk_K, tk_0, tk_1, tk_2, tk_3, tk_4, tk_5, tk_6, tk_7, tk_8, tk_9, tk_10, tk_o, ms_0_0, ms_0_1, ms_0_2, ms_0_3, ms_0_4, ms_0_5, ms_0_6, ms_0_7, ms_0_8, ms_0_9, ms_0_10, ms_1_0, ms_1_1, ms_1_2, ms_1_3, ms_1_4, ms_1_5, ms_1_6, ms_1_7, ms_1_8, ms_1_9, ms_1_10, ms_w, ms_r, ms_d, ms_M, ms_6, ms_K, pC_row]; done) | (simp (disch := (first | omega | (simp only [tN, tD, tR, sF]; omega))) only [pM, pJ, upM_s, upM_k, upM_c, upJ_s, upJ_k, upJ_c, tk_M, tk_K, tk_0, tk_1, tk_2, tk_3, tk_4, tk_5, tk_6, tk_7, tk_8, tk_9, tk_10, tk_o, ms_0_0, ms_0_1, ms_0_2, ms_0_3, ms_0_4, ms_0_5, ms_0_6, ms_0_7, ms_0_8, ms_0_9, ms_0_10, ms_1_0, ms_1_1, ms_1_2, ms_1_3, ms_1_4, ms_1_5, ms_1_6, ms_1_7, ms_1_8, ms_1_9, ms_1_10, ms_w, ms_r, ms_d, ms_M, ms_6, ms_K, pC_row]; done) | rfl) ?_
        refine lv_if_eq (tgt := 87) hx hb dX8_doesNext_64 (by decide) (fun c7 => ?_) (fun c7 => ?_)
        · replace c7 := (bz_0 _).mp c7
          refine lv_iconst (v := 0) hx hb dX8_doesNext_87 (by decide) ?_
          refine lv_istore_n (lv' := [(2, .int 0), (1, .int (μ.1 12 ((μ.1 7 2).toNatClampNeg))), (0, .ref (E.1 (232)))]) hx hb dX8_doesNext_88 rfl hl (by decide) rfl (fun ls hl => ?_)
          refine lv_iload_n hx hb dX8_doesNext_89 rfl (lv_at hl 0 rfl) ?_
          refine lv_if_ne (tgt := 97) hx hb dX8_doesNext_90 (by decide) (fun c => absurd c (by decide)) (fun _ => ?_)
          refine lv_iconst (v := 2) hx hb dX8_doesNext_93 (by decide) ?_
          refine lv_goto (tgt := 112) hx hb dX8_doesNext_94 (by decide) ?_
          exact e_i hf hr hlocks hw rfl ((if_neg c2).trans ((if_neg c3).trans ((if_pos c6).trans ((if_neg c7).trans rfl)))) dX8_doesNext_112
        · replace c7 := (bz_n0 _).mp c7
          refine lv_goto (tgt := 83) hx hb dX8_doesNext_67 (by decide) ?_
          refine lv_iconst (v := 1) hx hb dX8_doesNext_83 (by decide) ?_
          refine lv_goto (tgt := 88) hx hb dX8_doesNext_84 (by decide) ?_
          refine lv_istore_n (lv' := [(2, .int 1), (1, .int (μ.1 12 ((μ.1 7 2).toNatClampNeg))), (0, .ref (E.1 (232)))]) hx hb dX8_doesNext_88 rfl hl (by decide) rfl (fun ls hl => ?_)
          refine lv_iload_n hx hb dX8_doesNext_89 rfl (lv_at hl 0 rfl) ?_
          refine lv_if_ne (tgt := 97) hx hb dX8_doesNext_90 (by decide) (fun _ => ?_) (fun c => absurd c (by decide))
          refine lv_aload_n hx hb dX8_doesNext_97 rfl (lv_at hl 2 rfl) ?_
          refine lv_iload_n hx hb dX8_doesNext_98 rfl (lv_at hl 1 rfl) ?_
          refine c_i hw (run_V (As := [.int (μ.1 12 ((μ.1 7 2).toNatClampNeg))]) (rest := []) (np := 1) hf hw (k_X8_does l E _  (μ.1 12 ((μ.1 7 2).toNatClampNeg))  (rga_X8_readsForm (pM μ 7 2 (nI ((μ.1 7 2).toNatClampNeg + 1))) (μ.1 12 ((μ.1 7 2).toNatClampNeg))  (rga_pM (by decide) hh)).1 (rga_X8_readsForm (pM μ 7 2 (nI ((μ.1 7 2).toNatClampNeg + 1))) (μ.1 12 ((μ.1 7 2).toNatClampNeg))  (rga_pM (by decide) hh)).2) ⟨gl_V q1010 q1011 q1012 q5 q1013, by decide +kernel⟩ ⟨rfl, rfl, Nat.le_of_ble_eq_true rfl, Nat.le_of_ble_eq_true rfl⟩ (by decide) (c_R E _) rfl rfl hl.1 rfl (Nat.le_of_ble_eq_true rfl) dX8_doesNext_99 ⟨Nat.zero_le _, Nat.zero_le _⟩) (fun H locs hw => ?_)
          refine lv_ldc hx hb hf.2.2.2.1 (hf.2.2.2.2 _ q154) dX8_doesNext_102 ?_
          refine lv_icmp_gt (tgt := 111) hx hb dX8_doesNext_104 (by decide) (fun c10 => ?_) (fun c10 => ?_)
          · refine lv_iconst (v := 0) hx hb dX8_doesNext_111 (by decide) ?_
            exact e_i hf hr hlocks hw rfl ((if_neg c2).trans ((if_neg c3).trans ((if_pos c6).trans ((if_pos c7).trans ((if_pos c10).trans rfl))))) dX8_doesNext_112
          · refine lv_iconst (v := 3) hx hb dX8_doesNext_107 (by decide) ?_
            refine lv_goto (tgt := 112) hx hb dX8_doesNext_108 (by decide) ?_
            exact e_i hf hr hlocks hw rfl ((if_neg c2).trans ((if_neg c3).trans ((if_pos c6).trans ((if_pos c7).trans ((if_neg c10).trans rfl))))) dX8_doesNext_112
      · refine lv_iload_n hx hb dX8_doesNext_42 rfl (lv_at hl 0 rfl) ?_
        refine lv_bipush (v := 109) hx hb dX8_doesNext_43 (by decide) ?_
        refine lv_icmp_ne (tgt := 70) hx hb dX8_doesNext_45 (by decide) (fun c11 => ?_) (fun c11 => ?_)
        · refine lv_aload_n hx hb dX8_doesNext_70 rfl (lv_at hl 1 rfl) ?_
          refine lv_aload_n hx hb dX8_doesNext_71 rfl (lv_at hl 1 rfl) ?_
          refine g_f hw hf (by decide) (c_R E _) rfl inlX8 9 (by decide) rfl q95 rfl dX8_doesNext_72 ?_
          refine lv_iconst (v := 0) hx hb dX8_doesNext_75 (by decide) ?_
          refine g_a hw hf (by decide) (c_Rg E _) (vp_lit 0 2 (by decide) (by decide)) (tr_at (y := 0) (by decide) (by decide)) dX8_doesNext_76 ?_
          refine c_iR hw (run_V (As := [.int (((sp_X8_readsForm (pM μ 7 2 (nI ((μ.1 7 2).toNatClampNeg + 1)))  (μ.1 12 ((μ.1 7 2).toNatClampNeg))).2).1 13 0)]) (rest := []) (np := 1) hf hw (kn_X8_isSensor l E _  (((sp_X8_readsForm (pM μ 7 2 (nI ((μ.1 7 2).toNatClampNeg + 1)))  (μ.1 12 ((μ.1 7 2).toNatClampNeg))).2).1 13 0)  ) ⟨gl_V q370 q371 q372 q5 q373, by decide +kernel⟩ ⟨rfl, rfl, Nat.le_of_ble_eq_true rfl, Nat.le_of_ble_eq_true rfl⟩ (by decide) (c_R E _) rfl rfl hl.1 rfl (Nat.le_of_ble_eq_true rfl) dX8_doesNext_77 ⟨Nat.zero_le _, Nat.zero_le _⟩) (fun H locs hw => ?_)
          refine fold_i (y := bz (0 ≤ (((sp_X8_readsForm (pM μ 7 2 (nI ((μ.1 7 2).toNatClampNeg + 1)))  (μ.1 12 ((μ.1 7 2).toNatClampNeg))).2).1 13 0) ∧ (((sp_X8_readsForm (pM μ 7 2 (nI ((μ.1 7 2).toNatClampNeg + 1)))  (μ.1 12 ((μ.1 7 2).toNatClampNeg))).2).1 13 0) ≤ (((sp_X8_readsForm (pM μ 7 2 (nI ((μ.1 7 2).toNatClampNeg + 1)))  (μ.1 12 ((μ.1 7 2).toNatClampNeg))).2).1 8 1) - 1)) (by first | rfl | (simp [pM, pJ, upM, upJ, upM_r, tk_M, tk_K, tk_0, tk_1, tk_2, tk_3, tk_4, tk_5, tk_6, tk_7, tk_8, tk_9, tk_10, tk_o, ms_0_0, ms_0_1, ms_0_2, ms_0_3, ms_0_4, ms_0_5, ms_0_6, ms_0_7, ms_0_8, ms_0_9, ms_0_10, ms_1_0, ms_1_1, ms_1_2, ms_1_3, ms_1_4, ms_1_5, ms_1_6, ms_1_7, ms_1_8, ms_1_9, ms_1_10, ms_w, ms_r, ms_d, ms_M, ms_6, ms_K, pC_row]; done) | (simp (disch := (first | omega | (simp only [tN, tD, tR, sF]; omega))) only [pM, pJ, upM_s, upM_k, upM_c, upJ_s, upJ_k, upJ_c, tk_M, tk_K, tk_0, tk_1, tk_2, tk_3, tk_4, tk_5, tk_6, tk_7, tk_8, tk_9, tk_10, tk_o, ms_0_0, ms_0_1, ms_0_2, ms_0_3, ms_0_4, ms_0_5, ms_0_6, ms_0_7, ms_0_8, ms_0_9, ms_0_10, ms_1_0, ms_1_1, ms_1_2, ms_1_3, ms_1_4, ms_1_5, ms_1_6, ms_1_7, ms_1_8, ms_1_9, ms_1_10, ms_w, ms_r, ms_d, ms_M, ms_6, ms_K, pC_row]; done) | rfl) ?_
          refine lv_if_eq (tgt := 87) hx hb dX8_doesNext_80 (by decide) (fun c12 => ?_) (fun c12 => ?_)
          · replace c12 := (bz_0 _).mp c12
            refine lv_iconst (v := 0) hx hb dX8_doesNext_87 (by decide) ?_
            refine lv_istore_n (lv' := [(2, .int 0), (1, .int (μ.1 12 ((μ.1 7 2).toNatClampNeg))), (0, .ref (E.1 (232)))]) hx hb dX8_doesNext_88 rfl hl (by decide) rfl (fun ls hl => ?_)
            refine lv_iload_n hx hb dX8_doesNext_89 rfl (lv_at hl 0 rfl) ?_
            refine lv_if_ne (tgt := 97) hx hb dX8_doesNext_90 (by decide) (fun c => absurd c (by decide)) (fun _ => ?_)
            refine lv_iconst (v := 2) hx hb dX8_doesNext_93 (by decide) ?_
            refine lv_goto (tgt := 112) hx hb dX8_doesNext_94 (by decide) ?_
            exact e_i hf hr hlocks hw rfl ((if_neg c2).trans ((if_neg c3).trans ((if_neg c6).trans ((if_neg c11).trans ((if_neg c12).trans rfl))))) dX8_doesNext_112
          · replace c12 := (bz_n0 _).mp c12
            refine lv_iconst (v := 1) hx hb dX8_doesNext_83 (by decide) ?_
            refine lv_goto (tgt := 88) hx hb dX8_doesNext_84 (by decide) ?_
            refine lv_istore_n (lv' := [(2, .int 1), (1, .int (μ.1 12 ((μ.1 7 2).toNatClampNeg))), (0, .ref (E.1 (232)))]) hx hb dX8_doesNext_88 rfl hl (by decide) rfl (fun ls hl => ?_)
            refine lv_iload_n hx hb dX8_doesNext_89 rfl (lv_at hl 0 rfl) ?_
            refine lv_if_ne (tgt := 97) hx hb dX8_doesNext_90 (by decide) (fun _ => ?_) (fun c => absurd c (by decide))
            refine lv_aload_n hx hb dX8_doesNext_97 rfl (lv_at hl 2 rfl) ?_
            refine lv_iload_n hx hb dX8_doesNext_98 rfl (lv_at hl 1 rfl) ?_
            refine c_i hw (run_V (As := [.int (μ.1 12 ((μ.1 7 2).toNatClampNeg))]) (rest := []) (np := 1) hf hw (k_X8_does l E _  (μ.1 12 ((μ.1 7 2).toNatClampNeg))  (rga_X8_readsForm (pM μ 7 2 (nI ((μ.1 7 2).toNatClampNeg + 1))) (μ.1 12 ((μ.1 7 2).toNatClampNeg))  (rga_pM (by decide) hh)).1 (rga_X8_readsForm (pM μ 7 2 (nI ((μ.1 7 2).toNatClampNeg + 1))) (μ.1 12 ((μ.1 7 2).toNatClampNeg))  (rga_pM (by decide) hh)).2) ⟨gl_V q1010 q1011 q1012 q5 q1013, by decide +kernel⟩ ⟨rfl, rfl, Nat.le_of_ble_eq_true rfl, Nat.le_of_ble_eq_true rfl⟩ (by decide) (c_R E _) rfl rfl hl.1 rfl (Nat.le_of_ble_eq_true rfl) dX8_doesNext_99 ⟨Nat.zero_le _, Nat.zero_le _⟩) (fun H locs hw => ?_)
            refine lv_ldc hx hb hf.2.2.2.1 (hf.2.2.2.2 _ q154) dX8_doesNext_102 ?_
            refine lv_icmp_gt (tgt := 111) hx hb dX8_doesNext_104 (by decide) (fun c15 => ?_) (fun c15 => ?_)
            · refine lv_iconst (v := 0) hx hb dX8_doesNext_111 (by decide) ?_
              exact e_i hf hr hlocks hw rfl ((if_neg c2).trans ((if_neg c3).trans ((if_neg c6).trans ((if_neg c11).trans ((if_pos c12).trans ((if_pos c15).trans rfl)))))) dX8_doesNext_112
            · refine lv_iconst (v := 3) hx hb dX8_doesNext_107 (by decide) ?_
              refine lv_goto (tgt := 112) hx hb dX8_doesNext_108 (by decide) ?_
              exact e_i hf hr hlocks hw rfl ((if_neg c2).trans ((if_neg c3).trans ((if_neg c6).trans ((if_neg c11).trans ((if_pos c12).trans ((if_neg c15).trans rfl)))))) dX8_doesNext_112
        · refine lv_aload_n hx hb dX8_doesNext_48 rfl (lv_at hl 1 rfl) ?_
          refine lv_aload_n hx hb dX8_doesNext_49 rfl (lv_at hl 1 rfl) ?_
          refine g_f hw hf (by decide) (c_R E _) rfl inlX8 9 (by decide) rfl q95 rfl dX8_doesNext_50 ?_
          refine lv_iconst (v := 0) hx hb dX8_doesNext_53 (by decide) ?_
          refine g_a hw hf (by decide) (c_Rg E _) (vp_lit 0 2 (by decide) (by decide)) (tr_at (y := 0) (by decide) (by decide)) dX8_doesNext_54 ?_
          refine lv_aload_n hx hb dX8_doesNext_55 rfl (lv_at hl 1 rfl) ?_
          refine g_f hw hf (by decide) (c_R E _) rfl inlX8 9 (by decide) rfl q95 rfl dX8_doesNext_56 ?_
          refine lv_iconst (v := 1) hx hb dX8_doesNext_59 (by decide) ?_
          refine g_a hw hf (by decide) (c_Rg E _) (vp_lit 1 2 (by decide) (by decide)) (tr_at (y := 1) (by decide) (by decide)) dX8_doesNext_60 ?_
          refine c_iR hw (run_V (As := [.int (((sp_X8_readsForm (pM μ 7 2 (nI ((μ.1 7 2).toNatClampNeg + 1)))  (μ.1 12 ((μ.1 7 2).toNatClampNeg))).2).1 13 0), .int (((sp_X8_readsForm (pM μ 7 2 (nI ((μ.1 7 2).toNatClampNeg + 1)))  (μ.1 12 ((μ.1 7 2).toNatClampNeg))).2).1 13 1)]) (rest := []) (np := 2) hf hw (kn_X8_isWire l E _  (((sp_X8_readsForm (pM μ 7 2 (nI ((μ.1 7 2).toNatClampNeg + 1)))  (μ.1 12 ((μ.1 7 2).toNatClampNeg))).2).1 13 0) (((sp_X8_readsForm (pM μ 7 2 (nI ((μ.1 7 2).toNatClampNeg + 1)))  (μ.1 12 ((μ.1 7 2).toNatClampNeg))).2).1 13 1)   (rga_X8_readsForm (pM μ 7 2 (nI ((μ.1 7 2).toNatClampNeg + 1))) (μ.1 12 ((μ.1 7 2).toNatClampNeg))  (rga_pM (by decide) hh)).1.1) ⟨gl_V q438 q439 q440 q5 q441, by decide +kernel⟩ ⟨rfl, rfl, Nat.le_of_ble_eq_true rfl, Nat.le_of_ble_eq_true rfl⟩ (by decide) (c_R E _) rfl rfl hl.1 rfl (Nat.le_of_ble_eq_true rfl) dX8_doesNext_61 ⟨Nat.zero_le _, Nat.zero_le _⟩) (fun H locs hw => ?_)
          refine fold_i (y := bz ((0 ≤ (((sp_X8_readsForm (pM μ 7 2 (nI ((μ.1 7 2).toNatClampNeg + 1)))  (μ.1 12 ((μ.1 7 2).toNatClampNeg))).2).1 13 0) ∧ (((sp_X8_readsForm (pM μ 7 2 (nI ((μ.1 7 2).toNatClampNeg + 1)))  (μ.1 12 ((μ.1 7 2).toNatClampNeg))).2).1 13 0) ≤ (((sp_X8_readsForm (pM μ 7 2 (nI ((μ.1 7 2).toNatClampNeg + 1)))  (μ.1 12 ((μ.1 7 2).toNatClampNeg))).2).1 8 1) - 1) ∧ 0 ≤ (((sp_X8_readsForm (pM μ 7 2 (nI ((μ.1 7 2).toNatClampNeg + 1)))  (μ.1 12 ((μ.1 7 2).toNatClampNeg))).2).1 13 1) ∧ (((sp_X8_readsForm (pM μ 7 2 (nI ((μ.1 7 2).toNatClampNeg + 1)))  (μ.1 12 ((μ.1 7 2).toNatClampNeg))).2).1 13 1) ≤ (((sp_X8_readsForm (pM μ 7 2 (nI ((μ.1 7 2).toNatClampNeg + 1)))  (μ.1 12 ((μ.1 7 2).toNatClampNeg))).2).1 8 (85 + 29 * (((sp_X8_readsForm (pM μ 7 2 (nI ((μ.1 7 2).toNatClampNeg + 1)))  (μ.1 12 ((μ.1 7 2).toNatClampNeg))).2).1 13 0).toNatClampNeg + 1)) - 1)) (by first | rfl | (simp [pM, pJ, upM, upJ, upM_r, tk_M, tk_K, tk_0, tk_1, tk_2, tk_3, tk_4, tk_5, tk_6, tk_7, tk_8, tk_9, tk_10, tk_o, ms_0_0, ms_0_1, ms_0_2, ms_0_3, ms_0_4, ms_0_5, ms_0_6, ms_0_7, ms_0_8, ms_0_9, ms_0_10, ms_1_0, ms_1_1, ms_1_2, ms_1_3, ms_1_4, ms_1_5, ms_1_6, ms_1_7, ms_1_8, ms_1_9, ms_1_10, ms_w, ms_r, ms_d, ms_M, ms_6, ms_K, pC_row]; done) | (simp (disch := (first | omega | (simp only [tN, tD, tR, sF]; omega))) only [pM, pJ, upM_s, upM_k, upM_c, upJ_s, upJ_k, upJ_c, tk_M, tk_K, tk_0, tk_1, tk_2, tk_3, tk_4, tk_5, tk_6, tk_7, tk_8, tk_9, tk_10, tk_o, ms_0_0, ms_0_1, ms_0_2, ms_0_3, ms_0_4, ms_0_5, ms_0_6, ms_0_7, ms_0_8, ms_0_9, ms_0_10, ms_1_0, ms_1_1, ms_1_2, ms_1_3, ms_1_4, ms_1_5, ms_1_6, ms_1_7, ms_1_8, ms_1_9, ms_1_10, ms_w, ms_r, ms_d, ms_M, ms_6, ms_K, pC_row]; done) | rfl) ?_
          refine lv_if_eq (tgt := 87) hx hb dX8_doesNext_64 (by decide) (fun c16 => ?_) (fun c16 => ?_)
          · replace c16 := (bz_0 _).mp c16
            refine lv_iconst (v := 0) hx hb dX8_doesNext_87 (by decide) ?_
            refine lv_istore_n (lv' := [(2, .int 0), (1, .int (μ.1 12 ((μ.1 7 2).toNatClampNeg))), (0, .ref (E.1 (232)))]) hx hb dX8_doesNext_88 rfl hl (by decide) rfl (fun ls hl => ?_)
            refine lv_iload_n hx hb dX8_doesNext_89 rfl (lv_at hl 0 rfl) ?_
            refine lv_if_ne (tgt := 97) hx hb dX8_doesNext_90 (by decide) (fun c => absurd c (by decide)) (fun _ => ?_)
            refine lv_iconst (v := 2) hx hb dX8_doesNext_93 (by decide) ?_
            refine lv_goto (tgt := 112) hx hb dX8_doesNext_94 (by decide) ?_
            exact e_i hf hr hlocks hw rfl ((if_neg c2).trans ((if_neg c3).trans ((if_neg c6).trans ((if_pos c11).trans ((if_neg c16).trans rfl))))) dX8_doesNext_112
          · replace c16 := (bz_n0 _).mp c16
            refine lv_goto (tgt := 83) hx hb dX8_doesNext_67 (by decide) ?_
            refine lv_iconst (v := 1) hx hb dX8_doesNext_83 (by decide) ?_
            refine lv_goto (tgt := 88) hx hb dX8_doesNext_84 (by decide) ?_
            refine lv_istore_n (lv' := [(2, .int 1), (1, .int (μ.1 12 ((μ.1 7 2).toNatClampNeg))), (0, .ref (E.1 (232)))]) hx hb dX8_doesNext_88 rfl hl (by decide) rfl (fun ls hl => ?_)
            refine lv_iload_n hx hb dX8_doesNext_89 rfl (lv_at hl 0 rfl) ?_
            refine lv_if_ne (tgt := 97) hx hb dX8_doesNext_90 (by decide) (fun _ => ?_) (fun c => absurd c (by decide))
            refine lv_aload_n hx hb dX8_doesNext_97 rfl (lv_at hl 2 rfl) ?_
            refine lv_iload_n hx hb dX8_doesNext_98 rfl (lv_at hl 1 rfl) ?_
            refine c_i hw (run_V (As := [.int (μ.1 12 ((μ.1 7 2).toNatClampNeg))]) (rest := []) (np := 1) hf hw (k_X8_does l E _  (μ.1 12 ((μ.1 7 2).toNatClampNeg))  (rga_X8_readsForm (pM μ 7 2 (nI ((μ.1 7 2).toNatClampNeg + 1))) (μ.1 12 ((μ.1 7 2).toNatClampNeg))  (rga_pM (by decide) hh)).1 (rga_X8_readsForm (pM μ 7 2 (nI ((μ.1 7 2).toNatClampNeg + 1))) (μ.1 12 ((μ.1 7 2).toNatClampNeg))  (rga_pM (by decide) hh)).2) ⟨gl_V q1010 q1011 q1012 q5 q1013, by decide +kernel⟩ ⟨rfl, rfl, Nat.le_of_ble_eq_true rfl, Nat.le_of_ble_eq_true rfl⟩ (by decide) (c_R E _) rfl rfl hl.1 rfl (Nat.le_of_ble_eq_true rfl) dX8_doesNext_99 ⟨Nat.zero_le _, Nat.zero_le _⟩) (fun H locs hw => ?_)
            refine lv_ldc hx hb hf.2.2.2.1 (hf.2.2.2.2 _ q154) dX8_doesNext_102 ?_
            refine lv_icmp_gt (tgt := 111) hx hb dX8_doesNext_104 (by decide) (fun c19 => ?_) (fun c19 => ?_)
            · refine lv_iconst (v := 0) hx hb dX8_doesNext_111 (by decide) ?_
              exact e_i hf hr hlocks hw rfl ((if_neg c2).trans ((if_neg c3).trans ((if_neg c6).trans ((if_pos c11).trans ((if_pos c16).trans ((if_pos c19).trans rfl)))))) dX8_doesNext_112
            · refine lv_iconst (v := 3) hx hb dX8_doesNext_107 (by decide) ?_
              refine lv_goto (tgt := 112) hx hb dX8_doesNext_108 (by decide) ?_
              exact e_i hf hr hlocks hw rfl ((if_neg c2).trans ((if_neg c3).trans ((if_neg c6).trans ((if_pos c11).trans ((if_pos c16).trans ((if_neg c19).trans rfl)))))) dX8_doesNext_112
  · refine lv_iconst (v := 1) hx hb dX8_doesNext_28 (by decide) ?_
    exact e_i hf hr hlocks hw rfl ((if_pos c2).trans rfl) dX8_doesNext_29
theorem rga_X8_doesNext  (μ : Mu)    (hh : RGA μ) : RGA ((sp_X8_doesNext μ ).2) := by
  unfold sp_X8_doesNext
  exact (rga_ite (rga_lf (rga_X8_readsForm (pM μ 7 2 (nI ((μ.1 7 2).toNatClampNeg + 1))) (μ.1 12 ((μ.1 7 2).toNatClampNeg))  (rga_pM (by decide) hh))) (rga_ite (rga_ite (rga_lf (rga_X8_does ((sp_X8_readsForm (pM μ 7 2 (nI ((μ.1 7 2).toNatClampNeg + 1)))  (μ.1 12 ((μ.1 7 2).toNatClampNeg))).2) (μ.1 12 ((μ.1 7 2).toNatClampNeg))  (rga_X8_readsForm (pM μ 7 2 (nI ((μ.1 7 2).toNatClampNeg + 1))) (μ.1 12 ((μ.1 7 2).toNatClampNeg))  (rga_pM (by decide) hh)))) (rga_lf (rga_X8_does ((sp_X8_readsForm (pM μ 7 2 (nI ((μ.1 7 2).toNatClampNeg + 1)))  (μ.1 12 ((μ.1 7 2).toNatClampNeg))).2) (μ.1 12 ((μ.1 7 2).toNatClampNeg))  (rga_X8_readsForm (pM μ 7 2 (nI ((μ.1 7 2).toNatClampNeg + 1))) (μ.1 12 ((μ.1 7 2).toNatClampNeg))  (rga_pM (by decide) hh))))) (rga_ite (rga_ite (rga_ite (rga_lf (rga_X8_does ((sp_X8_readsForm (pM μ 7 2 (nI ((μ.1 7 2).toNatClampNeg + 1)))  (μ.1 12 ((μ.1 7 2).toNatClampNeg))).2) (μ.1 12 ((μ.1 7 2).toNatClampNeg))  (rga_X8_readsForm (pM μ 7 2 (nI ((μ.1 7 2).toNatClampNeg + 1))) (μ.1 12 ((μ.1 7 2).toNatClampNeg))  (rga_pM (by decide) hh)))) (rga_lf (rga_X8_does ((sp_X8_readsForm (pM μ 7 2 (nI ((μ.1 7 2).toNatClampNeg + 1)))  (μ.1 12 ((μ.1 7 2).toNatClampNeg))).2) (μ.1 12 ((μ.1 7 2).toNatClampNeg))  (rga_X8_readsForm (pM μ 7 2 (nI ((μ.1 7 2).toNatClampNeg + 1))) (μ.1 12 ((μ.1 7 2).toNatClampNeg))  (rga_pM (by decide) hh))))) (rga_lf (rga_X8_readsForm (pM μ 7 2 (nI ((μ.1 7 2).toNatClampNeg + 1))) (μ.1 12 ((μ.1 7 2).toNatClampNeg))  (rga_pM (by decide) hh)))) (rga_ite (rga_ite (rga_ite (rga_lf (rga_X8_does ((sp_X8_readsForm (pM μ 7 2 (nI ((μ.1 7 2).toNatClampNeg + 1)))  (μ.1 12 ((μ.1 7 2).toNatClampNeg))).2) (μ.1 12 ((μ.1 7 2).toNatClampNeg))  (rga_X8_readsForm (pM μ 7 2 (nI ((μ.1 7 2).toNatClampNeg + 1))) (μ.1 12 ((μ.1 7 2).toNatClampNeg))  (rga_pM (by decide) hh)))) (rga_lf (rga_X8_does ((sp_X8_readsForm (pM μ 7 2 (nI ((μ.1 7 2).toNatClampNeg + 1)))  (μ.1 12 ((μ.1 7 2).toNatClampNeg))).2) (μ.1 12 ((μ.1 7 2).toNatClampNeg))  (rga_X8_readsForm (pM μ 7 2 (nI ((μ.1 7 2).toNatClampNeg + 1))) (μ.1 12 ((μ.1 7 2).toNatClampNeg))  (rga_pM (by decide) hh))))) (rga_lf (rga_X8_readsForm (pM μ 7 2 (nI ((μ.1 7 2).toNatClampNeg + 1))) (μ.1 12 ((μ.1 7 2).toNatClampNeg))  (rga_pM (by decide) hh)))) (rga_ite (rga_ite (rga_lf (rga_X8_does ((sp_X8_readsForm (pM μ 7 2 (nI ((μ.1 7 2).toNatClampNeg + 1)))  (μ.1 12 ((μ.1 7 2).toNatClampNeg))).2) (μ.1 12 ((μ.1 7 2).toNatClampNeg))  (rga_X8_readsForm (pM μ 7 2 (nI ((μ.1 7 2).toNatClampNeg + 1))) (μ.1 12 ((μ.1 7 2).toNatClampNeg))  (rga_pM (by decide) hh)))) (rga_lf (rga_X8_does ((sp_X8_readsForm (pM μ 7 2 (nI ((μ.1 7 2).toNatClampNeg + 1)))  (μ.1 12 ((μ.1 7 2).toNatClampNeg))).2) (μ.1 12 ((μ.1 7 2).toNatClampNeg))  (rga_X8_readsForm (pM μ 7 2 (nI ((μ.1 7 2).toNatClampNeg + 1))) (μ.1 12 ((μ.1 7 2).toNatClampNeg))  (rga_pM (by decide) hh))))) (rga_lf (rga_X8_readsForm (pM μ 7 2 (nI ((μ.1 7 2).toNatClampNeg + 1))) (μ.1 12 ((μ.1 7 2).toNatClampNeg))  (rga_pM (by decide) hh))))))))
theorem atp_X8_doesNext  (μ : Mu)   (hlt : (μ.1 7 2).toNatClampNeg < 60) (hh : AT μ) : AT ((sp_X8_doesNext μ ).2) := by
  unfold sp_X8_doesNext
  exact (atp_ite (atp_lf (atp_X8_readsForm (pM μ 7 2 (nI ((μ.1 7 2).toNatClampNeg + 1))) (μ.1 12 ((μ.1 7 2).toNatClampNeg))  (at_72 hh (by omega)))) (atp_ite (atp_ite (atp_lf (atp_X8_does ((sp_X8_readsForm (pM μ 7 2 (nI ((μ.1 7 2).toNatClampNeg + 1)))  (μ.1 12 ((μ.1 7 2).toNatClampNeg))).2) (μ.1 12 ((μ.1 7 2).toNatClampNeg))  (atp_X8_readsForm (pM μ 7 2 (nI ((μ.1 7 2).toNatClampNeg + 1))) (μ.1 12 ((μ.1 7 2).toNatClampNeg))  (at_72 hh (by omega))))) (atp_lf (atp_X8_does ((sp_X8_readsForm (pM μ 7 2 (nI ((μ.1 7 2).toNatClampNeg + 1)))  (μ.1 12 ((μ.1 7 2).toNatClampNeg))).2) (μ.1 12 ((μ.1 7 2).toNatClampNeg))  (atp_X8_readsForm (pM μ 7 2 (nI ((μ.1 7 2).toNatClampNeg + 1))) (μ.1 12 ((μ.1 7 2).toNatClampNeg))  (at_72 hh (by omega)))))) (atp_ite (atp_ite (atp_ite (atp_lf (atp_X8_does ((sp_X8_readsForm (pM μ 7 2 (nI ((μ.1 7 2).toNatClampNeg + 1)))  (μ.1 12 ((μ.1 7 2).toNatClampNeg))).2) (μ.1 12 ((μ.1 7 2).toNatClampNeg))  (atp_X8_readsForm (pM μ 7 2 (nI ((μ.1 7 2).toNatClampNeg + 1))) (μ.1 12 ((μ.1 7 2).toNatClampNeg))  (at_72 hh (by omega))))) (atp_lf (atp_X8_does ((sp_X8_readsForm (pM μ 7 2 (nI ((μ.1 7 2).toNatClampNeg + 1)))  (μ.1 12 ((μ.1 7 2).toNatClampNeg))).2) (μ.1 12 ((μ.1 7 2).toNatClampNeg))  (atp_X8_readsForm (pM μ 7 2 (nI ((μ.1 7 2).toNatClampNeg + 1))) (μ.1 12 ((μ.1 7 2).toNatClampNeg))  (at_72 hh (by omega)))))) (atp_lf (atp_X8_readsForm (pM μ 7 2 (nI ((μ.1 7 2).toNatClampNeg + 1))) (μ.1 12 ((μ.1 7 2).toNatClampNeg))  (at_72 hh (by omega))))) (atp_ite (atp_ite (atp_ite (atp_lf (atp_X8_does ((sp_X8_readsForm (pM μ 7 2 (nI ((μ.1 7 2).toNatClampNeg + 1)))  (μ.1 12 ((μ.1 7 2).toNatClampNeg))).2) (μ.1 12 ((μ.1 7 2).toNatClampNeg))  (atp_X8_readsForm (pM μ 7 2 (nI ((μ.1 7 2).toNatClampNeg + 1))) (μ.1 12 ((μ.1 7 2).toNatClampNeg))  (at_72 hh (by omega))))) (atp_lf (atp_X8_does ((sp_X8_readsForm (pM μ 7 2 (nI ((μ.1 7 2).toNatClampNeg + 1)))  (μ.1 12 ((μ.1 7 2).toNatClampNeg))).2) (μ.1 12 ((μ.1 7 2).toNatClampNeg))  (atp_X8_readsForm (pM μ 7 2 (nI ((μ.1 7 2).toNatClampNeg + 1))) (μ.1 12 ((μ.1 7 2).toNatClampNeg))  (at_72 hh (by omega)))))) (atp_lf (atp_X8_readsForm (pM μ 7 2 (nI ((μ.1 7 2).toNatClampNeg + 1))) (μ.1 12 ((μ.1 7 2).toNatClampNeg))  (at_72 hh (by omega))))) (atp_ite (atp_ite (atp_lf (atp_X8_does ((sp_X8_readsForm (pM μ 7 2 (nI ((μ.1 7 2).toNatClampNeg + 1)))  (μ.1 12 ((μ.1 7 2).toNatClampNeg))).2) (μ.1 12 ((μ.1 7 2).toNatClampNeg))  (atp_X8_readsForm (pM μ 7 2 (nI ((μ.1 7 2).toNatClampNeg + 1))) (μ.1 12 ((μ.1 7 2).toNatClampNeg))  (at_72 hh (by omega))))) (atp_lf (atp_X8_does ((sp_X8_readsForm (pM μ 7 2 (nI ((μ.1 7 2).toNatClampNeg + 1)))  (μ.1 12 ((μ.1 7 2).toNatClampNeg))).2) (μ.1 12 ((μ.1 7 2).toNatClampNeg))  (atp_X8_readsForm (pM μ 7 2 (nI ((μ.1 7 2).toNatClampNeg + 1))) (μ.1 12 ((μ.1 7 2).toNatClampNeg))  (at_72 hh (by omega)))))) (atp_lf (atp_X8_readsForm (pM μ 7 2 (nI ((μ.1 7 2).toNatClampNeg + 1))) (μ.1 12 ((μ.1 7 2).toNatClampNeg))  (at_72 hh (by omega)))))))))
/-- the row that is put aside stays -/
def R10 (g : Nat → Int32) (m : Mu) : Prop := m.1 10 = g
theorem r10_pM {g : Nat → Int32} {m : Mu} {c k : Nat} {v : Int32} (hc : c ≠ 10) (h : R10 g m) : R10 g (pM m c k v) := by
  unfold R10 at h ⊢
  rw [pM_row (Ne.symm hc)]; exact h
theorem r10_pC {g : Nat → Int32} {m : Mu} {c b c' b' n : Nat} (hc : c ≠ 10) (h : R10 g m) : R10 g (pC m c b c' b' n) := by
  unfold R10 at h ⊢
  rw [pC_row (Ne.symm hc)]; exact h
theorem r10_lf {g : Nat → Int32} {v : Int32} {m : Mu} (h : R10 g m) : R10 g ((v, m).2) := h
theorem r10_ite {g : Nat → Int32} {P : Prop} [Decidable P] {a b : Int32 × Mu} (ha : R10 g a.2) (hb : R10 g b.2) : R10 g (if P then a else b).2 := by
  split
  · exact ha
  · exact hb
theorem r10_iteM {g : Nat → Int32} {P : Prop} [Decidable P] {a b : Mu} (ha : R10 g a) (hb : R10 g b) : R10 g (if P then a else b) := by
  split
  · exact ha
  · exact hb
theorem r10_oc {g : Nat → Int32} {o : Option Nat} {a : Int32 × Mu} {f : Nat → Int32 × Mu} (ha : R10 g a.2) (hb : ∀ t, R10 g (f t).2) : R10 g (oc o a f).2 := by
  cases o with
  | none => exact ha
  | some t => exact hb t
theorem r10_ocM {g : Nat → Int32} {o : Option Nat} {a : Mu} {f : Nat → Mu} (ha : R10 g a) (hb : ∀ t, R10 g (f t)) : R10 g (oc o a f) := by
  cases o with
  | none => exact ha
  | some t => exact hb t
theorem r10_X8_alarms {g : Nat → Int32} (μ : Mu)  (n : Nat) (w : Int32)  (hh : R10 g μ) : R10 g ((sp_X8_alarms μ n w)) := by
  unfold sp_X8_alarms
  exact (r10_iteM (r10_iteM (r10_pM (by decide) hh) (r10_iteM (r10_pM (by decide) hh) (r10_pM (by decide) hh))) (r10_iteM (r10_pM (by decide) hh) (r10_iteM (r10_pM (by decide) hh) (r10_pM (by decide) hh))))
theorem r10_X8_cuts {g : Nat → Int32} (μ : Mu)  (a : Int32) (b : Int32) (w : Int32)  (hh : R10 g μ) : R10 g ((sp_X8_cuts μ a b w).2) := by
  unfold sp_X8_cuts
  exact (r10_ite (r10_ite (r10_ite (r10_lf hh) (r10_lf (r10_pM (by decide) hh))) (r10_lf hh)) (r10_lf hh))
theorem r10_X8_baths {g : Nat → Int32} (μ : Mu)  (a : Int32) (b : Int32)  (hh : R10 g μ) : R10 g ((sp_X8_baths μ a b).2) := by
  unfold sp_X8_baths
  exact (r10_ite (r10_ite (r10_ite (r10_lf (r10_pM (by decide) hh)) (r10_lf hh)) (r10_lf hh)) (r10_lf hh))
theorem r10_X8_reads {g : Nat → Int32} (μ : Mu)  (a : Int32)  (hh : R10 g μ) : R10 g ((sp_X8_reads μ a).2) := by
  unfold sp_X8_reads
  exact (r10_ite (r10_ite (r10_ite (r10_lf (r10_X8_alarms (pM (pM (pM (pM (pM (pM (pM (pM (pM (pM (pM (pM μ 8 (85 + 29 * a.toNatClampNeg + 20) (μ.1 8 (85 + 29 * a.toNatClampNeg + 21))) 8 (85 + 29 * a.toNatClampNeg + 21) (μ.1 8 (85 + 29 * a.toNatClampNeg + 22))) 8 (85 + 29 * a.toNatClampNeg + 22) (μ.1 8 (85 + 29 * a.toNatClampNeg + 23))) 8 (85 + 29 * a.toNatClampNeg + 23) (μ.1 8 (85 + 29 * a.toNatClampNeg + 24))) 8 (85 + 29 * a.toNatClampNeg + 24) (μ.1 8 (85 + 29 * a.toNatClampNeg + 25))) 8 (85 + 29 * a.toNatClampNeg + 25) (μ.1 8 (85 + 29 * a.toNatClampNeg + 26))) 8 (85 + 29 * a.toNatClampNeg + 26) (μ.1 8 (85 + 29 * a.toNatClampNeg + 27))) 8 (85 + 29 * a.toNatClampNeg + 27) (μ.1 8 (85 + 29 * a.toNatClampNeg + 28))) 8 (85 + 29 * a.toNatClampNeg + 19) (8 : Int32)) 8 (85 + 29 * a.toNatClampNeg + 28) (sp_X8_degrees (μ.1 8)  a.toNatClampNeg)) 8 (85 + 29 * a.toNatClampNeg + 19) (9 : Int32)) 8 (85 + 29 * a.toNatClampNeg + 18) ((μ.1 8 (85 + 29 * a.toNatClampNeg + 18)) + 1)) a.toNatClampNeg (sp_X8_degrees (μ.1 8)  a.toNatClampNeg)  (r10_pM (by decide) (r10_pM (by decide) (r10_pM (by decide) (r10_pM (by decide) (r10_pM (by decide) (r10_pM (by decide) (r10_pM (by decide) (r10_pM (by decide) (r10_pM (by decide) (r10_pM (by decide) (r10_pM (by decide) (r10_pM (by decide) hh)))))))))))))) (r10_lf (r10_X8_alarms (pM (pM (pM μ 8 (85 + 29 * a.toNatClampNeg + (20 + ((μ.1 8 (85 + 29 * a.toNatClampNeg + 19)).toNatClampNeg))) (sp_X8_degrees (μ.1 8)  a.toNatClampNeg)) 8 (85 + 29 * a.toNatClampNeg + 19) (nI ((μ.1 8 (85 + 29 * a.toNatClampNeg + 19)).toNatClampNeg + 1))) 8 (85 + 29 * a.toNatClampNeg + 18) ((μ.1 8 (85 + 29 * a.toNatClampNeg + 18)) + 1)) a.toNatClampNeg (sp_X8_degrees (μ.1 8)  a.toNatClampNeg)  (r10_pM (by decide) (r10_pM (by decide) (r10_pM (by decide) hh)))))) (r10_lf hh)) (r10_lf hh))
theorem r10_lp_X8_scans_42 {g : Nat → Int32} (μ : Mu)   (hh : R10 g μ) (f : Nat) : ∀ (v0 : Int32) (k : Nat), R10 g ((lp_X8_scans_42 μ  f v0 k).2) := by
  induction f with
  | zero => intro v0 k; exact hh
  | succ f ih =>
    intro v0 k
    unfold lp_X8_scans_42
    exact (r10_ite (r10_lf hh) (r10_ite (ih _ _) (r10_ite (r10_lf (r10_X8_reads (pM μ 8 9 ((10 * (((v0 + (nI k)) - (v0 + (nI k)) / 12 * 12) / 3)) + (((v0 + (nI k)) - (v0 + (nI k)) / 12 * 12) - ((v0 + (nI k)) - (v0 + (nI k)) / 12 * 12) / 3 * 3))) (sp_X8_inside (μ.1 8)  ((10 * (((v0 + (nI k)) - (v0 + (nI k)) / 12 * 12) / 3)) + (((v0 + (nI k)) - (v0 + (nI k)) / 12 * 12) - ((v0 + (nI k)) - (v0 + (nI k)) / 12 * 12) / 3 * 3)))  (r10_pM (by decide) hh))) (r10_lf (r10_X8_reads (pM μ 8 9 ((10 * (((v0 + (nI k)) - (v0 + (nI k)) / 12 * 12) / 3)) + (((v0 + (nI k)) - (v0 + (nI k)) / 12 * 12) - ((v0 + (nI k)) - (v0 + (nI k)) / 12 * 12) / 3 * 3))) (sp_X8_inside (μ.1 8)  ((10 * (((v0 + (nI k)) - (v0 + (nI k)) / 12 * 12) / 3)) + (((v0 + (nI k)) - (v0 + (nI k)) / 12 * 12) - ((v0 + (nI k)) - (v0 + (nI k)) / 12 * 12) / 3 * 3)))  (r10_pM (by decide) hh))))))
theorem r10_X8_scans {g : Nat → Int32} (μ : Mu)    (hh : R10 g μ) : R10 g ((sp_X8_scans μ ).2) := by
  unfold sp_X8_scans
  exact (r10_ite (r10_lp_X8_scans_42 _ hh 13 (11 : Int32) 1) (r10_lp_X8_scans_42 _ hh 13 ((3 * ((μ.1 8 9) / 10)) + ((μ.1 8 9) - (μ.1 8 9) / 10 * 10)) 1))
theorem r10_X8_passes {g : Nat → Int32} (μ : Mu)  (ch : Int32)  (hh : R10 g μ) : R10 g ((sp_X8_passes μ ch).2) := by
  unfold sp_X8_passes
  exact (r10_ite (r10_lf (r10_pM (by decide) hh)) (r10_ite (r10_lf (r10_pM (by decide) hh)) (r10_lf (r10_pM (by decide) hh))))
theorem r10_lp_X8_takes_12 {g : Nat → Int32} (μ : Mu)  (k : Nat)  (f : Nat) : ∀  (μ1 : Mu), R10 g μ1 → R10 g ((lp_X8_takes_12 μ k  f  μ1).2) := by
  induction f with
  | zero => intro  μ1 h1; exact h1
  | succ f ih =>
    intro  μ1 h1
    unfold lp_X8_takes_12
    exact (r10_ite (r10_ite (r10_lf h1) (r10_lf h1)) (r10_ite (r10_ite (r10_lf h1) (r10_lf h1)) (r10_ite (ih _ (r10_pM (by decide) (r10_pM (by decide) h1))) (r10_ite (r10_lf h1) (r10_lf h1)))))
theorem r10_X8_takes {g : Nat → Int32} (μ : Mu)  (k : Nat)  (hh : R10 g μ) : R10 g ((sp_X8_takes μ k).2) := by
  unfold sp_X8_takes
  exact (r10_lp_X8_takes_12 _ _ _ _ (r10_pM (by decide) hh))
theorem r10_X8_readsForm {g : Nat → Int32} (μ : Mu)  (ch : Int32)  (hh : R10 g μ) : R10 g ((sp_X8_readsForm μ ch).2) := by
  unfold sp_X8_readsForm
  exact (r10_ite (r10_ite (r10_lf (r10_X8_passes μ (59 : Int32)  hh)) (r10_lf (r10_X8_passes μ (59 : Int32)  hh))) (r10_ite (r10_ite (r10_lf (r10_X8_takes μ 0  hh)) (r10_ite (r10_lf (r10_X8_passes ((sp_X8_takes μ  0).2) (59 : Int32)  (r10_X8_takes μ 0  hh))) (r10_lf (r10_X8_passes ((sp_X8_takes μ  0).2) (59 : Int32)  (r10_X8_takes μ 0  hh))))) (r10_ite (r10_ite (r10_lf (r10_X8_takes μ 0  hh)) (r10_ite (r10_lf (r10_pM (by decide) (r10_X8_passes ((sp_X8_takes μ  0).2) (44 : Int32)  (r10_X8_takes μ 0  hh)))) (r10_ite (r10_ite (r10_lf (r10_pM (by decide) (r10_X8_takes ((sp_X8_passes ((sp_X8_passes ((sp_X8_takes μ  0).2)  (44 : Int32)).2)  (45 : Int32)).2) 1  (r10_X8_passes ((sp_X8_passes ((sp_X8_takes μ  0).2)  (44 : Int32)).2) (45 : Int32)  (r10_X8_passes ((sp_X8_takes μ  0).2) (44 : Int32)  (r10_X8_takes μ 0  hh)))))) (r10_ite (r10_lf (r10_X8_passes (pM ((sp_X8_takes ((sp_X8_passes ((sp_X8_passes ((sp_X8_takes μ  0).2)  (44 : Int32)).2)  (45 : Int32)).2)  1).2) 13 1 (((sp_X8_takes ((sp_X8_passes ((sp_X8_passes ((sp_X8_takes μ  0).2)  (44 : Int32)).2)  (45 : Int32)).2)  1).2).1 13 1)) (59 : Int32)  (r10_pM (by decide) (r10_X8_takes ((sp_X8_passes ((sp_X8_passes ((sp_X8_takes μ  0).2)  (44 : Int32)).2)  (45 : Int32)).2) 1  (r10_X8_passes ((sp_X8_passes ((sp_X8_takes μ  0).2)  (44 : Int32)).2) (45 : Int32)  (r10_X8_passes ((sp_X8_takes μ  0).2) (44 : Int32)  (r10_X8_takes μ 0  hh))))))) (r10_lf (r10_X8_passes (pM ((sp_X8_takes ((sp_X8_passes ((sp_X8_passes ((sp_X8_takes μ  0).2)  (44 : Int32)).2)  (45 : Int32)).2)  1).2) 13 1 (((sp_X8_takes ((sp_X8_passes ((sp_X8_passes ((sp_X8_takes μ  0).2)  (44 : Int32)).2)  (45 : Int32)).2)  1).2).1 13 1)) (59 : Int32)  (r10_pM (by decide) (r10_X8_takes ((sp_X8_passes ((sp_X8_passes ((sp_X8_takes μ  0).2)  (44 : Int32)).2)  (45 : Int32)).2) 1  (r10_X8_passes ((sp_X8_passes ((sp_X8_takes μ  0).2)  (44 : Int32)).2) (45 : Int32)  (r10_X8_passes ((sp_X8_takes μ  0).2) (44 : Int32)  (r10_X8_takes μ 0  hh))))))))) (r10_ite (r10_lf (r10_pM (by decide) (r10_X8_takes ((sp_X8_passes ((sp_X8_passes ((sp_X8_takes μ  0).2)  (44 : Int32)).2)  (45 : Int32)).2) 1  (r10_X8_passes ((sp_X8_passes ((sp_X8_takes μ  0).2)  (44 : Int32)).2) (45 : Int32)  (r10_X8_passes ((sp_X8_takes μ  0).2) (44 : Int32)  (r10_X8_takes μ 0  hh)))))) (r10_ite (r10_lf (r10_X8_passes (pM ((sp_X8_takes ((sp_X8_passes ((sp_X8_passes ((sp_X8_takes μ  0).2)  (44 : Int32)).2)  (45 : Int32)).2)  1).2) 13 1 (-(((sp_X8_takes ((sp_X8_passes ((sp_X8_passes ((sp_X8_takes μ  0).2)  (44 : Int32)).2)  (45 : Int32)).2)  1).2).1 13 1))) (59 : Int32)  (r10_pM (by decide) (r10_X8_takes ((sp_X8_passes ((sp_X8_passes ((sp_X8_takes μ  0).2)  (44 : Int32)).2)  (45 : Int32)).2) 1  (r10_X8_passes ((sp_X8_passes ((sp_X8_takes μ  0).2)  (44 : Int32)).2) (45 : Int32)  (r10_X8_passes ((sp_X8_takes μ  0).2) (44 : Int32)  (r10_X8_takes μ 0  hh))))))) (r10_lf (r10_X8_passes (pM ((sp_X8_takes ((sp_X8_passes ((sp_X8_passes ((sp_X8_takes μ  0).2)  (44 : Int32)).2)  (45 : Int32)).2)  1).2) 13 1 (-(((sp_X8_takes ((sp_X8_passes ((sp_X8_passes ((sp_X8_takes μ  0).2)  (44 : Int32)).2)  (45 : Int32)).2)  1).2).1 13 1))) (59 : Int32)  (r10_pM (by decide) (r10_X8_takes ((sp_X8_passes ((sp_X8_passes ((sp_X8_takes μ  0).2)  (44 : Int32)).2)  (45 : Int32)).2) 1  (r10_X8_passes ((sp_X8_passes ((sp_X8_takes μ  0).2)  (44 : Int32)).2) (45 : Int32)  (r10_X8_passes ((sp_X8_takes μ  0).2) (44 : Int32)  (r10_X8_takes μ 0  hh)))))))))))) (r10_ite (r10_ite (r10_lf (r10_X8_takes μ 0  hh)) (r10_ite (r10_lf (r10_pM (by decide) (r10_X8_passes ((sp_X8_takes μ  0).2) (44 : Int32)  (r10_X8_takes μ 0  hh)))) (r10_ite (r10_lf (r10_pM (by decide) (r10_X8_takes ((sp_X8_passes ((sp_X8_takes μ  0).2)  (44 : Int32)).2) 1  (r10_X8_passes ((sp_X8_takes μ  0).2) (44 : Int32)  (r10_X8_takes μ 0  hh))))) (r10_ite (r10_lf (r10_X8_passes (pM ((sp_X8_takes ((sp_X8_passes ((sp_X8_takes μ  0).2)  (44 : Int32)).2)  1).2) 13 1 (((sp_X8_takes ((sp_X8_passes ((sp_X8_takes μ  0).2)  (44 : Int32)).2)  1).2).1 13 1)) (59 : Int32)  (r10_pM (by decide) (r10_X8_takes ((sp_X8_passes ((sp_X8_takes μ  0).2)  (44 : Int32)).2) 1  (r10_X8_passes ((sp_X8_takes μ  0).2) (44 : Int32)  (r10_X8_takes μ 0  hh)))))) (r10_lf (r10_X8_passes (pM ((sp_X8_takes ((sp_X8_passes ((sp_X8_takes μ  0).2)  (44 : Int32)).2)  1).2) 13 1 (((sp_X8_takes ((sp_X8_passes ((sp_X8_takes μ  0).2)  (44 : Int32)).2)  1).2).1 13 1)) (59 : Int32)  (r10_pM (by decide) (r10_X8_takes ((sp_X8_passes ((sp_X8_takes μ  0).2)  (44 : Int32)).2) 1  (r10_X8_passes ((sp_X8_takes μ  0).2) (44 : Int32)  (r10_X8_takes μ 0  hh)))))))))) (r10_ite (r10_ite (r10_lf (r10_X8_takes μ 0  hh)) (r10_ite (r10_lf (r10_pM (by decide) (r10_X8_passes ((sp_X8_takes μ  0).2) (44 : Int32)  (r10_X8_takes μ 0  hh)))) (r10_ite (r10_lf (r10_pM (by decide) (r10_X8_takes ((sp_X8_passes ((sp_X8_takes μ  0).2)  (44 : Int32)).2) 1  (r10_X8_passes ((sp_X8_takes μ  0).2) (44 : Int32)  (r10_X8_takes μ 0  hh))))) (r10_ite (r10_lf (r10_X8_passes (pM ((sp_X8_takes ((sp_X8_passes ((sp_X8_takes μ  0).2)  (44 : Int32)).2)  1).2) 13 1 (((sp_X8_takes ((sp_X8_passes ((sp_X8_takes μ  0).2)  (44 : Int32)).2)  1).2).1 13 1)) (59 : Int32)  (r10_pM (by decide) (r10_X8_takes ((sp_X8_passes ((sp_X8_takes μ  0).2)  (44 : Int32)).2) 1  (r10_X8_passes ((sp_X8_takes μ  0).2) (44 : Int32)  (r10_X8_takes μ 0  hh)))))) (r10_lf (r10_X8_passes (pM ((sp_X8_takes ((sp_X8_passes ((sp_X8_takes μ  0).2)  (44 : Int32)).2)  1).2) 13 1 (((sp_X8_takes ((sp_X8_passes ((sp_X8_takes μ  0).2)  (44 : Int32)).2)  1).2).1 13 1)) (59 : Int32)  (r10_pM (by decide) (r10_X8_takes ((sp_X8_passes ((sp_X8_takes μ  0).2)  (44 : Int32)).2) 1  (r10_X8_passes ((sp_X8_takes μ  0).2) (44 : Int32)  (r10_X8_takes μ 0  hh)))))))))) (r10_lf hh))))))
theorem r10_X8_does {g : Nat → Int32} (μ : Mu)  (ch : Int32)  (hh : R10 g μ) : R10 g ((sp_X8_does μ ch).2) := by
  unfold sp_X8_does
  exact (r10_ite (r10_lf (r10_X8_cuts μ (μ.1 13 0) (μ.1 13 1) (1 : Int32)  hh)) (r10_ite (r10_lf (r10_X8_cuts μ (μ.1 13 0) (μ.1 13 1) (0 : Int32)  hh)) (r10_ite (r10_lf (r10_X8_reads μ (μ.1 13 0)  hh)) (r10_ite (r10_lf (r10_X8_baths μ (μ.1 13 0) (μ.1 13 1)  hh)) (r10_lf (r10_X8_scans μ  hh))))))
theorem r10_X8_doesNext {g : Nat → Int32} (μ : Mu)    (hh : R10 g μ) : R10 g ((sp_X8_doesNext μ ).2) := by
  unfold sp_X8_doesNext
  exact (r10_ite (r10_lf (r10_X8_readsForm (pM μ 7 2 (nI ((μ.1 7 2).toNatClampNeg + 1))) (μ.1 12 ((μ.1 7 2).toNatClampNeg))  (r10_pM (by decide) hh))) (r10_ite (r10_ite (r10_lf (r10_X8_does ((sp_X8_readsForm (pM μ 7 2 (nI ((μ.1 7 2).toNatClampNeg + 1)))  (μ.1 12 ((μ.1 7 2).toNatClampNeg))).2) (μ.1 12 ((μ.1 7 2).toNatClampNeg))  (r10_X8_readsForm (pM μ 7 2 (nI ((μ.1 7 2).toNatClampNeg + 1))) (μ.1 12 ((μ.1 7 2).toNatClampNeg))  (r10_pM (by decide) hh)))) (r10_lf (r10_X8_does ((sp_X8_readsForm (pM μ 7 2 (nI ((μ.1 7 2).toNatClampNeg + 1)))  (μ.1 12 ((μ.1 7 2).toNatClampNeg))).2) (μ.1 12 ((μ.1 7 2).toNatClampNeg))  (r10_X8_readsForm (pM μ 7 2 (nI ((μ.1 7 2).toNatClampNeg + 1))) (μ.1 12 ((μ.1 7 2).toNatClampNeg))  (r10_pM (by decide) hh))))) (r10_ite (r10_ite (r10_ite (r10_lf (r10_X8_does ((sp_X8_readsForm (pM μ 7 2 (nI ((μ.1 7 2).toNatClampNeg + 1)))  (μ.1 12 ((μ.1 7 2).toNatClampNeg))).2) (μ.1 12 ((μ.1 7 2).toNatClampNeg))  (r10_X8_readsForm (pM μ 7 2 (nI ((μ.1 7 2).toNatClampNeg + 1))) (μ.1 12 ((μ.1 7 2).toNatClampNeg))  (r10_pM (by decide) hh)))) (r10_lf (r10_X8_does ((sp_X8_readsForm (pM μ 7 2 (nI ((μ.1 7 2).toNatClampNeg + 1)))  (μ.1 12 ((μ.1 7 2).toNatClampNeg))).2) (μ.1 12 ((μ.1 7 2).toNatClampNeg))  (r10_X8_readsForm (pM μ 7 2 (nI ((μ.1 7 2).toNatClampNeg + 1))) (μ.1 12 ((μ.1 7 2).toNatClampNeg))  (r10_pM (by decide) hh))))) (r10_lf (r10_X8_readsForm (pM μ 7 2 (nI ((μ.1 7 2).toNatClampNeg + 1))) (μ.1 12 ((μ.1 7 2).toNatClampNeg))  (r10_pM (by decide) hh)))) (r10_ite (r10_ite (r10_ite (r10_lf (r10_X8_does ((sp_X8_readsForm (pM μ 7 2 (nI ((μ.1 7 2).toNatClampNeg + 1)))  (μ.1 12 ((μ.1 7 2).toNatClampNeg))).2) (μ.1 12 ((μ.1 7 2).toNatClampNeg))  (r10_X8_readsForm (pM μ 7 2 (nI ((μ.1 7 2).toNatClampNeg + 1))) (μ.1 12 ((μ.1 7 2).toNatClampNeg))  (r10_pM (by decide) hh)))) (r10_lf (r10_X8_does ((sp_X8_readsForm (pM μ 7 2 (nI ((μ.1 7 2).toNatClampNeg + 1)))  (μ.1 12 ((μ.1 7 2).toNatClampNeg))).2) (μ.1 12 ((μ.1 7 2).toNatClampNeg))  (r10_X8_readsForm (pM μ 7 2 (nI ((μ.1 7 2).toNatClampNeg + 1))) (μ.1 12 ((μ.1 7 2).toNatClampNeg))  (r10_pM (by decide) hh))))) (r10_lf (r10_X8_readsForm (pM μ 7 2 (nI ((μ.1 7 2).toNatClampNeg + 1))) (μ.1 12 ((μ.1 7 2).toNatClampNeg))  (r10_pM (by decide) hh)))) (r10_ite (r10_ite (r10_lf (r10_X8_does ((sp_X8_readsForm (pM μ 7 2 (nI ((μ.1 7 2).toNatClampNeg + 1)))  (μ.1 12 ((μ.1 7 2).toNatClampNeg))).2) (μ.1 12 ((μ.1 7 2).toNatClampNeg))  (r10_X8_readsForm (pM μ 7 2 (nI ((μ.1 7 2).toNatClampNeg + 1))) (μ.1 12 ((μ.1 7 2).toNatClampNeg))  (r10_pM (by decide) hh)))) (r10_lf (r10_X8_does ((sp_X8_readsForm (pM μ 7 2 (nI ((μ.1 7 2).toNatClampNeg + 1)))  (μ.1 12 ((μ.1 7 2).toNatClampNeg))).2) (μ.1 12 ((μ.1 7 2).toNatClampNeg))  (r10_X8_readsForm (pM μ 7 2 (nI ((μ.1 7 2).toNatClampNeg + 1))) (μ.1 12 ((μ.1 7 2).toNatClampNeg))  (r10_pM (by decide) hh))))) (r10_lf (r10_X8_readsForm (pM μ 7 2 (nI ((μ.1 7 2).toNatClampNeg + 1))) (μ.1 12 ((μ.1 7 2).toNatClampNeg))  (r10_pM (by decide) hh))))))))
