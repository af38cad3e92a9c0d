/-! ===== the reference: scanning, counting ===== -/
theorem rg_cg {g g' : Nat → Int32} (h : ∀ y, y ≠ 9 → g' y = g y) (hG : RG g) : RG g' := by
  unfold RG RI RT RQ at hG ⊢
  simp (disch := omega) only [rN, rL, h] at hG ⊢
  exact hG
theorem rs_cg {g g' : Nat → Int32} (h : ∀ y, y ≠ 9 → g' y = g y) {n : Nat} (hS : RS g n) : RS g' n := by
  unfold RS at hS ⊢
  simp (disch := omega) only [oN, rN, rL, h] at hS ⊢
  exact hS
theorem p9_cg {μ : Mu} {v : Int32} : ∀ y, y ≠ 9 → (pM μ 8 9 v).1 8 y = μ.1 8 y := by
  intro y hy
  simp [pM, upM, hy]
theorem rg_9 {μ : Mu} {v : Int32} (hG : RG (μ.1 8)) : RG ((pM μ 8 9 v).1 8) := rg_cg p9_cg hG
theorem rs_9 {μ : Mu} {v : Int32} (hS : ∀ n, n < (μ.1 8 1).toNatClampNeg → RS (μ.1 8) n) : ∀ n, n < ((pM μ 8 9 v).1 8 1).toNatClampNeg → RS ((pM μ 8 9 v).1 8) n := by
  intro n hn
  rw [p9_cg 1 (by decide)] at hn
  exact rs_cg p9_cg (hS n hn)
def lp_X8_scans_42 (μ : Mu)   : Nat → Int32 → Nat → Int32 × Mu
  | 0, _, _ => (0, μ)
  | f + 1, v0, k =>
    if (12 : Int32) < nI k then
      ((-2000000002), μ)
    else
      if (sp_X8_inside (μ.1 8)  ((10 * (((v0 + (nI k)) - (v0 + (nI k)) / 12 * 12) / 3)) + (((v0 + (nI k)) - (v0 + (nI k)) / 12 * 12) - ((v0 + (nI k)) - (v0 + (nI k)) / 12 * 12) / 3 * 3)) : Int32) = (-1) then
        lp_X8_scans_42 μ  f v0 (k + 1)
      else
        if ((sp_X8_reads (pM μ 8 9 ((10 * (((v0 + (nI k)) - (v0 + (nI k)) / 12 * 12) / 3)) + (((v0 + (nI k)) - (v0 + (nI k)) / 12 * 12) - ((v0 + (nI k)) - (v0 + (nI k)) / 12 * 12) / 3 * 3)))  (sp_X8_inside (μ.1 8)  ((10 * (((v0 + (nI k)) - (v0 + (nI k)) / 12 * 12) / 3)) + (((v0 + (nI k)) - (v0 + (nI k)) / 12 * 12) - ((v0 + (nI k)) - (v0 + (nI k)) / 12 * 12) / 3 * 3)))).1 : Int32) ≤ (-2000000001) then
          ((-1) - (sp_X8_inside (μ.1 8)  ((10 * (((v0 + (nI k)) - (v0 + (nI k)) / 12 * 12) / 3)) + (((v0 + (nI k)) - (v0 + (nI k)) / 12 * 12) - ((v0 + (nI k)) - (v0 + (nI k)) / 12 * 12) / 3 * 3))), (sp_X8_reads (pM μ 8 9 ((10 * (((v0 + (nI k)) - (v0 + (nI k)) / 12 * 12) / 3)) + (((v0 + (nI k)) - (v0 + (nI k)) / 12 * 12) - ((v0 + (nI k)) - (v0 + (nI k)) / 12 * 12) / 3 * 3)))  (sp_X8_inside (μ.1 8)  ((10 * (((v0 + (nI k)) - (v0 + (nI k)) / 12 * 12) / 3)) + (((v0 + (nI k)) - (v0 + (nI k)) / 12 * 12) - ((v0 + (nI k)) - (v0 + (nI k)) / 12 * 12) / 3 * 3)))).2)
        else
          (sp_X8_inside (μ.1 8)  ((10 * (((v0 + (nI k)) - (v0 + (nI k)) / 12 * 12) / 3)) + (((v0 + (nI k)) - (v0 + (nI k)) / 12 * 12) - ((v0 + (nI k)) - (v0 + (nI k)) / 12 * 12) / 3 * 3)), (sp_X8_reads (pM μ 8 9 ((10 * (((v0 + (nI k)) - (v0 + (nI k)) / 12 * 12) / 3)) + (((v0 + (nI k)) - (v0 + (nI k)) / 12 * 12) - ((v0 + (nI k)) - (v0 + (nI k)) / 12 * 12) / 3 * 3)))  (sp_X8_inside (μ.1 8)  ((10 * (((v0 + (nI k)) - (v0 + (nI k)) / 12 * 12) / 3)) + (((v0 + (nI k)) - (v0 + (nI k)) / 12 * 12) - ((v0 + (nI k)) - (v0 + (nI k)) / 12 * 12) / 3 * 3)))).2)
def sp_X8_scans (μ : Mu)   : Int32 × Mu :=
  if (μ.1 8 9 : Int32) = (-1) then
    lp_X8_scans_42 μ  13 (11 : Int32) 1
  else
    lp_X8_scans_42 μ  13 ((3 * ((μ.1 8 9) / 10)) + ((μ.1 8 9) - (μ.1 8 9) / 10 * 10)) 1
set_option maxHeartbeats 4000000 in
set_option maxRecDepth 100000 in
theorem k_X8_scans (l : Launch) (E : En) (μ : Mu)   (hG : RG (μ.1 8)) (hSa : ∀ n, n < (μ.1 8 1).toNatClampNeg → RS (μ.1 8) n) : MtI l yX8_scans cX8_scans 5 .int ({ frames := 12, cells := 0, slots := 0, locals := 294 }) [.ref (E.1 (232))] E μ (sp_X8_scans μ ) := by
  refine mt_of (by decide +kernel) (Nat.le_of_ble_eq_true rfl) ?_
  intro p e s m args below meth c ls hf hr hlocks hl hw
  have hx := hf.1
  have hb := hf.2.1
  have hl : lv_has ls 5 [(0, .ref (E.1 (232)))] := hl
  have hI := hG.1
  refine lv_aload_n hx hb dX8_scans_0 rfl (lv_at hl 0 rfl) ?_
  refine g_f hw hf (by decide) (c_R E _) rfl inlX8 0 (by decide) rfl q90 rfl dX8_scans_1 ?_
  refine lv_bipush (v := 9) hx hb dX8_scans_4 (by decide) ?_
  refine g_a hw hf (by decide) (c_Rs E _) (vp_lit 9 259 (by decide) (by decide)) (tr_at (y := 9) (by decide) (by decide)) dX8_scans_6 ?_
  refine lv_iconst (v := (-1)) hx hb dX8_scans_7 (by decide) ?_
  refine lv_icmp_ne (tgt := 16) hx hb dX8_scans_8 (by decide) (fun c1 => ?_) (fun c1 => ?_)
  · refine lv_iconst (v := 3) hx hb dX8_scans_16 (by decide) ?_
    refine lv_aload_n hx hb dX8_scans_17 rfl (lv_at hl 0 rfl) ?_
    refine g_f hw hf (by decide) (c_R E _) rfl inlX8 0 (by decide) rfl q90 rfl dX8_scans_18 ?_
    refine lv_bipush (v := 9) hx hb dX8_scans_21 (by decide) ?_
    refine g_a hw hf (by decide) (c_Rs E _) (vp_lit 9 259 (by decide) (by decide)) (tr_at (y := 9) (by decide) (by decide)) dX8_scans_23 ?_
    refine lv_bipush (v := 10) hx hb dX8_scans_24 (by decide) ?_
    refine lv_idiv hx hb dX8_scans_26 (by decide) ?_
    refine lv_imul hx hb dX8_scans_27 ?_
    refine lv_aload_n hx hb dX8_scans_28 rfl (lv_at hl 0 rfl) ?_
    refine g_f hw hf (by decide) (c_R E _) rfl inlX8 0 (by decide) rfl q90 rfl dX8_scans_29 ?_
    refine lv_bipush (v := 9) hx hb dX8_scans_32 (by decide) ?_
    refine g_a hw hf (by decide) (c_Rs E _) (vp_lit 9 259 (by decide) (by decide)) (tr_at (y := 9) (by decide) (by decide)) dX8_scans_34 ?_
    refine lv_bipush (v := 10) hx hb dX8_scans_35 (by decide) ?_
    refine lv_irem hx hb dX8_scans_37 (by decide) ?_
    refine lv_iadd hx hb dX8_scans_38 ?_
    refine lv_istore_n (lv' := [(1, .int ((3 * ((μ.1 8 9) / 10)) + ((μ.1 8 9) - (μ.1 8 9) / 10 * 10))), (0, .ref (E.1 (232)))]) hx hb dX8_scans_39 rfl hl (by decide) rfl (fun ls hl => ?_)
    refine lv_iconst (v := 1) hx hb dX8_scans_40 (by decide) ?_
    refine lv_istore_n (lv' := [(2, .int 1), (1, .int ((3 * ((μ.1 8 9) / 10)) + ((μ.1 8 9) - (μ.1 8 9) / 10 * 10))), (0, .ref (E.1 (232)))]) hx hb dX8_scans_41 rfl hl (by decide) rfl (fun ls hl => ?_)
    have key_42 : ∀ (f : Nat) (v0 : Int32) (k : Nat), k + f = 14 → k ≤ 13 → sp_X8_scans μ  = lp_X8_scans_42 μ  f v0 k → ∀ (ls : Array Slot) (H : Heap) (locs : List Loc), lv_has ls 5 [(0, .ref (E.1 (232))), (1, .int (v0)), (2, .int (nI k))] → Wk E μ s H locs → W p l e ({ frames := 12, cells := 0, slots := 0, locals := 294 }) s m args below meth c H locs 0 0 (MQ below (va_Qi (fun r u => r = ((sp_X8_scans μ )).1 ∧ u = ((sp_X8_scans μ )).2) (fun u t => WdU E u t) (inE E)) args s 0 0 (inE E)) (F0 m 42 ls []) := by
      intro f
      induction f with
      | zero => intro v0 k h1 h2 hq ls H locs hl hw; exfalso; omega
      | succ f ih =>
        intro v0 k h1 h2 hq ls H locs hl hw
        refine lv_iload_n hx hb dX8_scans_42 rfl (lv_at hl 2 rfl) ?_
        refine lv_bipush (v := 12) hx hb dX8_scans_43 (by decide) ?_
        refine lv_icmp_gt (tgt := 121) hx hb dX8_scans_45 (by decide) (fun c2 => ?_) (fun c2 => ?_)
        · have c2n : 12 < k := by have q := (nI_ltI (a := 12) (b := k) (by omega) (by omega)); first | exact q.mp c2 | exact fun z => c2 (q.mpr z)
          refine lv_ldc hx hb hf.2.2.2.1 (hf.2.2.2.2 _ q202) dX8_scans_121 ?_
          exact e_i hf hr hlocks hw rfl ((hq).trans ((if_pos c2).trans rfl)) dX8_scans_123
        · have c2n : ¬ 12 < k := by have q := (nI_ltI (a := 12) (b := k) (by omega) (by omega)); first | exact q.mp c2 | exact fun z => c2 (q.mpr z)
          refine lv_iload_n hx hb dX8_scans_48 rfl (lv_at hl 1 rfl) ?_
          refine lv_iload_n hx hb dX8_scans_49 rfl (lv_at hl 2 rfl) ?_
          refine lv_iadd hx hb dX8_scans_50 ?_
          refine lv_bipush (v := 12) hx hb dX8_scans_51 (by decide) ?_
          refine lv_irem hx hb dX8_scans_53 (by decide) ?_
          refine lv_istore_n (lv' := [(3, .int ((v0 + (nI k)) - (v0 + (nI k)) / 12 * 12)), (0, .ref (E.1 (232))), (1, .int (v0)), (2, .int (nI k))]) hx hb dX8_scans_54 rfl hl (by decide) rfl (fun ls hl => ?_)
          refine lv_aload_n hx hb dX8_scans_55 rfl (lv_at hl 1 rfl) ?_
          refine lv_bipush (v := 10) hx hb dX8_scans_56 (by decide) ?_
          refine lv_iload_n hx hb dX8_scans_58 rfl (lv_at hl 0 rfl) ?_
          refine lv_iconst (v := 3) hx hb dX8_scans_59 (by decide) ?_
          refine lv_idiv hx hb dX8_scans_60 (by decide) ?_
          refine lv_imul hx hb dX8_scans_61 ?_
          refine lv_iload_n hx hb dX8_scans_62 rfl (lv_at hl 0 rfl) ?_
          refine lv_iconst (v := 3) hx hb dX8_scans_63 (by decide) ?_
          refine lv_irem hx hb dX8_scans_64 (by decide) ?_
          refine lv_iadd hx hb dX8_scans_65 ?_
          refine c_iR hw (run_V (As := [.int ((10 * (((v0 + (nI k)) - (v0 + (nI k)) / 12 * 12) / 3)) + (((v0 + (nI k)) - (v0 + (nI k)) / 12 * 12) - ((v0 + (nI k)) - (v0 + (nI k)) / 12 * 12) / 3 * 3))]) (rest := []) (np := 1) hf hw (k_X8_inside l E _  ((10 * (((v0 + (nI k)) - (v0 + (nI k)) / 12 * 12) / 3)) + (((v0 + (nI k)) - (v0 + (nI k)) / 12 * 12) - ((v0 + (nI k)) - (v0 + (nI k)) / 12 * 12) / 3 * 3))  hI.2.1) ⟨gl_V q374 q375 q376 q5 q377, by decide +kernel⟩ ⟨rfl, rfl, Nat.le_of_ble_eq_true rfl, Nat.le_of_ble_eq_true rfl⟩ (by decide) (c_R E _) rfl rfl hl.1 rfl (Nat.le_of_ble_eq_true rfl) dX8_scans_66 ⟨Nat.zero_le _, Nat.zero_le _⟩) (fun H locs hw => ?_)
          refine lv_istore (lv' := [(4, .int (sp_X8_inside (μ.1 8)  ((10 * (((v0 + (nI k)) - (v0 + (nI k)) / 12 * 12) / 3)) + (((v0 + (nI k)) - (v0 + (nI k)) / 12 * 12) - ((v0 + (nI k)) - (v0 + (nI k)) / 12 * 12) / 3 * 3)))), (3, .int ((v0 + (nI k)) - (v0 + (nI k)) / 12 * 12)), (0, .ref (E.1 (232))), (1, .int (v0)), (2, .int (nI k))]) hx hb dX8_scans_69 hl (by decide) rfl (fun ls hl => ?_)
          refine lv_iload hx hb dX8_scans_71 (lv_at hl 0 rfl) ?_
          refine lv_iconst (v := (-1)) hx hb dX8_scans_73 (by decide) ?_
          refine lv_icmp_eq (tgt := 115) hx hb dX8_scans_74 (by decide) (fun c3 => ?_) (fun c3 => ?_)
          · refine lv_iinc (v := nI (k + 1)) (lv' := [(2, .int (nI (k + 1))), (4, .int (sp_X8_inside (μ.1 8)  ((10 * (((v0 + (nI k)) - (v0 + (nI k)) / 12 * 12) / 3)) + (((v0 + (nI k)) - (v0 + (nI k)) / 12 * 12) - ((v0 + (nI k)) - (v0 + (nI k)) / 12 * 12) / 3 * 3)))), (3, .int ((v0 + (nI k)) - (v0 + (nI k)) / 12 * 12)), (0, .ref (E.1 (232))), (1, .int (v0))]) hx hb dX8_scans_115 hl (k := 4) rfl (nI_1 _) (by decide) rfl (fun ls hl => ?_)
            refine lv_goto (tgt := 42) hx hb dX8_scans_118 (by decide) ?_
            exact ih v0 (k + 1) (by omega) (by omega) (((hq).trans ((if_neg c2).trans ((if_pos c3).trans rfl)))) _ _ _ (lv_sub hl [3, 4, 0] rfl) hw
          · refine lv_aload_n hx hb dX8_scans_77 rfl (lv_at hl 2 rfl) ?_
            refine g_f hw hf (by decide) (c_R E _) rfl inlX8 0 (by decide) rfl q90 rfl dX8_scans_78 ?_
            refine lv_bipush (v := 9) hx hb dX8_scans_81 (by decide) ?_
            refine lv_bipush (v := 10) hx hb dX8_scans_83 (by decide) ?_
            refine lv_iload_n hx hb dX8_scans_85 rfl (lv_at hl 1 rfl) ?_
            refine lv_iconst (v := 3) hx hb dX8_scans_86 (by decide) ?_
            refine lv_idiv hx hb dX8_scans_87 (by decide) ?_
            refine lv_imul hx hb dX8_scans_88 ?_
            refine lv_iload_n hx hb dX8_scans_89 rfl (lv_at hl 1 rfl) ?_
            refine lv_iconst (v := 3) hx hb dX8_scans_90 (by decide) ?_
            refine lv_irem hx hb dX8_scans_91 (by decide) ?_
            refine lv_iadd hx hb dX8_scans_92 ?_
            refine p_a hw hf (by decide) (c_Rs E _) (vp_lit 9 259 (by decide) (by decide)) (by rw [show (9 : Int32).toNatClampNeg = 9 from (by decide)]; exact (s_Rs E _ (by decide) _)) dX8_scans_93 (fun H locs hw => ?_)
            refine lv_aload_n hx hb dX8_scans_94 rfl (lv_at hl 2 rfl) ?_
            refine lv_iload hx hb dX8_scans_95 (lv_at hl 0 rfl) ?_
            refine c_i hw (run_V (As := [.int (sp_X8_inside (μ.1 8)  ((10 * (((v0 + (nI k)) - (v0 + (nI k)) / 12 * 12) / 3)) + (((v0 + (nI k)) - (v0 + (nI k)) / 12 * 12) - ((v0 + (nI k)) - (v0 + (nI k)) / 12 * 12) / 3 * 3)))]) (rest := []) (np := 1) hf hw (k_X8_reads l E _  (sp_X8_inside (μ.1 8)  ((10 * (((v0 + (nI k)) - (v0 + (nI k)) / 12 * 12) / 3)) + (((v0 + (nI k)) - (v0 + (nI k)) / 12 * 12) - ((v0 + (nI k)) - (v0 + (nI k)) / 12 * 12) / 3 * 3)))  (rg_9 hG) (rs_9 hSa)) ⟨gl_V q785 q786 q787 q5 q788, by decide +kernel⟩ ⟨rfl, rfl, Nat.le_of_ble_eq_true rfl, Nat.le_of_ble_eq_true rfl⟩ (by decide) (c_R E _) rfl rfl hl.1 rfl (Nat.le_of_ble_eq_true rfl) dX8_scans_97 ⟨Nat.zero_le _, Nat.zero_le _⟩) (fun H locs hw => ?_)
            refine lv_ldc hx hb hf.2.2.2.1 (hf.2.2.2.2 _ q154) dX8_scans_100 ?_
            refine lv_icmp_le (tgt := 110) hx hb dX8_scans_102 (by decide) (fun c4 => ?_) (fun c4 => ?_)
            · refine lv_iconst (v := (-1)) hx hb dX8_scans_110 (by decide) ?_
              refine lv_iload hx hb dX8_scans_111 (lv_at hl 0 rfl) ?_
              refine lv_isub hx hb dX8_scans_113 ?_
              exact e_i hf hr hlocks hw rfl ((hq).trans ((if_neg c2).trans ((if_neg c3).trans ((if_pos c4).trans rfl)))) dX8_scans_114
            · refine lv_iload hx hb dX8_scans_105 (lv_at hl 0 rfl) ?_
              refine lv_goto (tgt := 114) hx hb dX8_scans_107 (by decide) ?_
              exact e_i hf hr hlocks hw rfl ((hq).trans ((if_neg c2).trans ((if_neg c3).trans ((if_neg c4).trans rfl)))) dX8_scans_114
    exact key_42 13 ((3 * ((μ.1 8 9) / 10)) + ((μ.1 8 9) - (μ.1 8 9) / 10 * 10)) 1 (by omega) (by omega) (((if_neg c1).trans rfl)) _ _ _ (lv_sub hl [2, 1, 0] rfl) hw
  · refine lv_bipush (v := 11) hx hb dX8_scans_11 (by decide) ?_
    refine lv_goto (tgt := 39) hx hb dX8_scans_13 (by decide) ?_
    refine lv_istore_n (lv' := [(1, .int 11), (0, .ref (E.1 (232)))]) hx hb dX8_scans_39 rfl hl (by decide) rfl (fun ls hl => ?_)
    refine lv_iconst (v := 1) hx hb dX8_scans_40 (by decide) ?_
    refine lv_istore_n (lv' := [(2, .int 1), (1, .int 11), (0, .ref (E.1 (232)))]) hx hb dX8_scans_41 rfl hl (by decide) rfl (fun ls hl => ?_)
    have key_42 : ∀ (f : Nat) (v0 : Int32) (k : Nat), k + f = 14 → k ≤ 13 → sp_X8_scans μ  = lp_X8_scans_42 μ  f v0 k → ∀ (ls : Array Slot) (H : Heap) (locs : List Loc), lv_has ls 5 [(0, .ref (E.1 (232))), (1, .int (v0)), (2, .int (nI k))] → Wk E μ s H locs → W p l e ({ frames := 12, cells := 0, slots := 0, locals := 294 }) s m args below meth c H locs 0 0 (MQ below (va_Qi (fun r u => r = ((sp_X8_scans μ )).1 ∧ u = ((sp_X8_scans μ )).2) (fun u t => WdU E u t) (inE E)) args s 0 0 (inE E)) (F0 m 42 ls []) := by
      intro f
      induction f with
      | zero => intro v0 k h1 h2 hq ls H locs hl hw; exfalso; omega
      | succ f ih =>
        intro v0 k h1 h2 hq ls H locs hl hw
        refine lv_iload_n hx hb dX8_scans_42 rfl (lv_at hl 2 rfl) ?_
        refine lv_bipush (v := 12) hx hb dX8_scans_43 (by decide) ?_
        refine lv_icmp_gt (tgt := 121) hx hb dX8_scans_45 (by decide) (fun c5 => ?_) (fun c5 => ?_)
        · have c5n : 12 < k := by have q := (nI_ltI (a := 12) (b := k) (by omega) (by omega)); first | exact q.mp c5 | exact fun z => c5 (q.mpr z)
          refine lv_ldc hx hb hf.2.2.2.1 (hf.2.2.2.2 _ q202) dX8_scans_121 ?_
          exact e_i hf hr hlocks hw rfl ((hq).trans ((if_pos c5).trans rfl)) dX8_scans_123
        · have c5n : ¬ 12 < k := by have q := (nI_ltI (a := 12) (b := k) (by omega) (by omega)); first | exact q.mp c5 | exact fun z => c5 (q.mpr z)
          refine lv_iload_n hx hb dX8_scans_48 rfl (lv_at hl 1 rfl) ?_
          refine lv_iload_n hx hb dX8_scans_49 rfl (lv_at hl 2 rfl) ?_
          refine lv_iadd hx hb dX8_scans_50 ?_
          refine lv_bipush (v := 12) hx hb dX8_scans_51 (by decide) ?_
          refine lv_irem hx hb dX8_scans_53 (by decide) ?_
          refine lv_istore_n (lv' := [(3, .int ((v0 + (nI k)) - (v0 + (nI k)) / 12 * 12)), (0, .ref (E.1 (232))), (1, .int (v0)), (2, .int (nI k))]) hx hb dX8_scans_54 rfl hl (by decide) rfl (fun ls hl => ?_)
          refine lv_aload_n hx hb dX8_scans_55 rfl (lv_at hl 1 rfl) ?_
          refine lv_bipush (v := 10) hx hb dX8_scans_56 (by decide) ?_
          refine lv_iload_n hx hb dX8_scans_58 rfl (lv_at hl 0 rfl) ?_
          refine lv_iconst (v := 3) hx hb dX8_scans_59 (by decide) ?_
          refine lv_idiv hx hb dX8_scans_60 (by decide) ?_
          refine lv_imul hx hb dX8_scans_61 ?_
          refine lv_iload_n hx hb dX8_scans_62 rfl (lv_at hl 0 rfl) ?_
          refine lv_iconst (v := 3) hx hb dX8_scans_63 (by decide) ?_
          refine lv_irem hx hb dX8_scans_64 (by decide) ?_
          refine lv_iadd hx hb dX8_scans_65 ?_
          refine c_iR hw (run_V (As := [.int ((10 * (((v0 + (nI k)) - (v0 + (nI k)) / 12 * 12) / 3)) + (((v0 + (nI k)) - (v0 + (nI k)) / 12 * 12) - ((v0 + (nI k)) - (v0 + (nI k)) / 12 * 12) / 3 * 3))]) (rest := []) (np := 1) hf hw (k_X8_inside l E _  ((10 * (((v0 + (nI k)) - (v0 + (nI k)) / 12 * 12) / 3)) + (((v0 + (nI k)) - (v0 + (nI k)) / 12 * 12) - ((v0 + (nI k)) - (v0 + (nI k)) / 12 * 12) / 3 * 3))  hI.2.1) ⟨gl_V q374 q375 q376 q5 q377, by decide +kernel⟩ ⟨rfl, rfl, Nat.le_of_ble_eq_true rfl, Nat.le_of_ble_eq_true rfl⟩ (by decide) (c_R E _) rfl rfl hl.1 rfl (Nat.le_of_ble_eq_true rfl) dX8_scans_66 ⟨Nat.zero_le _, Nat.zero_le _⟩) (fun H locs hw => ?_)
          refine lv_istore (lv' := [(4, .int (sp_X8_inside (μ.1 8)  ((10 * (((v0 + (nI k)) - (v0 + (nI k)) / 12 * 12) / 3)) + (((v0 + (nI k)) - (v0 + (nI k)) / 12 * 12) - ((v0 + (nI k)) - (v0 + (nI k)) / 12 * 12) / 3 * 3)))), (3, .int ((v0 + (nI k)) - (v0 + (nI k)) / 12 * 12)), (0, .ref (E.1 (232))), (1, .int (v0)), (2, .int (nI k))]) hx hb dX8_scans_69 hl (by decide) rfl (fun ls hl => ?_)
          refine lv_iload hx hb dX8_scans_71 (lv_at hl 0 rfl) ?_
          refine lv_iconst (v := (-1)) hx hb dX8_scans_73 (by decide) ?_
          refine lv_icmp_eq (tgt := 115) hx hb dX8_scans_74 (by decide) (fun c6 => ?_) (fun c6 => ?_)
          · refine lv_iinc (v := nI (k + 1)) (lv' := [(2, .int (nI (k + 1))), (4, .int (sp_X8_inside (μ.1 8)  ((10 * (((v0 + (nI k)) - (v0 + (nI k)) / 12 * 12) / 3)) + (((v0 + (nI k)) - (v0 + (nI k)) / 12 * 12) - ((v0 + (nI k)) - (v0 + (nI k)) / 12 * 12) / 3 * 3)))), (3, .int ((v0 + (nI k)) - (v0 + (nI k)) / 12 * 12)), (0, .ref (E.1 (232))), (1, .int (v0))]) hx hb dX8_scans_115 hl (k := 4) rfl (nI_1 _) (by decide) rfl (fun ls hl => ?_)
            refine lv_goto (tgt := 42) hx hb dX8_scans_118 (by decide) ?_
            exact ih v0 (k + 1) (by omega) (by omega) (((hq).trans ((if_neg c5).trans ((if_pos c6).trans rfl)))) _ _ _ (lv_sub hl [3, 4, 0] rfl) hw
          · refine lv_aload_n hx hb dX8_scans_77 rfl (lv_at hl 2 rfl) ?_
            refine g_f hw hf (by decide) (c_R E _) rfl inlX8 0 (by decide) rfl q90 rfl dX8_scans_78 ?_
            refine lv_bipush (v := 9) hx hb dX8_scans_81 (by decide) ?_
            refine lv_bipush (v := 10) hx hb dX8_scans_83 (by decide) ?_
            refine lv_iload_n hx hb dX8_scans_85 rfl (lv_at hl 1 rfl) ?_
            refine lv_iconst (v := 3) hx hb dX8_scans_86 (by decide) ?_
            refine lv_idiv hx hb dX8_scans_87 (by decide) ?_
            refine lv_imul hx hb dX8_scans_88 ?_
            refine lv_iload_n hx hb dX8_scans_89 rfl (lv_at hl 1 rfl) ?_
            refine lv_iconst (v := 3) hx hb dX8_scans_90 (by decide) ?_
            refine lv_irem hx hb dX8_scans_91 (by decide) ?_
            refine lv_iadd hx hb dX8_scans_92 ?_
            refine p_a hw hf (by decide) (c_Rs E _) (vp_lit 9 259 (by decide) (by decide)) (by rw [show (9 : Int32).toNatClampNeg = 9 from (by decide)]; exact (s_Rs E _ (by decide) _)) dX8_scans_93 (fun H locs hw => ?_)
            refine lv_aload_n hx hb dX8_scans_94 rfl (lv_at hl 2 rfl) ?_
            refine lv_iload hx hb dX8_scans_95 (lv_at hl 0 rfl) ?_
            refine c_i hw (run_V (As := [.int (sp_X8_inside (μ.1 8)  ((10 * (((v0 + (nI k)) - (v0 + (nI k)) / 12 * 12) / 3)) + (((v0 + (nI k)) - (v0 + (nI k)) / 12 * 12) - ((v0 + (nI k)) - (v0 + (nI k)) / 12 * 12) / 3 * 3)))]) (rest := []) (np := 1) hf hw (k_X8_reads l E _  (sp_X8_inside (μ.1 8)  ((10 * (((v0 + (nI k)) - (v0 + (nI k)) / 12 * 12) / 3)) + (((v0 + (nI k)) - (v0 + (nI k)) / 12 * 12) - ((v0 + (nI k)) - (v0 + (nI k)) / 12 * 12) / 3 * 3)))  (rg_9 hG) (rs_9 hSa)) ⟨gl_V q785 q786 q787 q5 q788, by decide +kernel⟩ ⟨rfl, rfl, Nat.le_of_ble_eq_true rfl, Nat.le_of_ble_eq_true rfl⟩ (by decide) (c_R E _) rfl rfl hl.1 rfl (Nat.le_of_ble_eq_true rfl) dX8_scans_97 ⟨Nat.zero_le _, Nat.zero_le _⟩) (fun H locs hw => ?_)
            refine lv_ldc hx hb hf.2.2.2.1 (hf.2.2.2.2 _ q154) dX8_scans_100 ?_
            refine lv_icmp_le (tgt := 110) hx hb dX8_scans_102 (by decide) (fun c7 => ?_) (fun c7 => ?_)
            · refine lv_iconst (v := (-1)) hx hb dX8_scans_110 (by decide) ?_
              refine lv_iload hx hb dX8_scans_111 (lv_at hl 0 rfl) ?_
              refine lv_isub hx hb dX8_scans_113 ?_
              exact e_i hf hr hlocks hw rfl ((hq).trans ((if_neg c5).trans ((if_neg c6).trans ((if_pos c7).trans rfl)))) dX8_scans_114
            · refine lv_iload hx hb dX8_scans_105 (lv_at hl 0 rfl) ?_
              refine lv_goto (tgt := 114) hx hb dX8_scans_107 (by decide) ?_
              exact e_i hf hr hlocks hw rfl ((hq).trans ((if_neg c5).trans ((if_neg c6).trans ((if_neg c7).trans rfl)))) dX8_scans_114
    exact key_42 13 (11 : Int32) 1 (by omega) (by omega) (((if_pos c1).trans rfl)) _ _ _ (lv_sub hl [2, 1, 0] rfl) hw
theorem s7_lp_X8_scans_42 {x : Int32} (μ : Mu)   (hh : S7 x μ) (f : Nat) : ∀ (v0 : Int32) (k : Nat), S7 x ((lp_X8_scans_42 μ  f v0 k).2) := by
  induction f with
  | zero => intro v0 k; exact hh
  | succ f ih =>
    intro v0 k
    unfold lp_X8_scans_42
    exact (s7_ite (s7_lf hh) (s7_ite (ih _ _) (s7_ite (s7_lf (s7_X8_reads (pM μ 8 9 ((10 * (((v0 + (nI k)) - (v0 + (nI k)) / 12 * 12) / 3)) + (((v0 + (nI k)) - (v0 + (nI k)) / 12 * 12) - ((v0 + (nI k)) - (v0 + (nI k)) / 12 * 12) / 3 * 3))) (sp_X8_inside (μ.1 8)  ((10 * (((v0 + (nI k)) - (v0 + (nI k)) / 12 * 12) / 3)) + (((v0 + (nI k)) - (v0 + (nI k)) / 12 * 12) - ((v0 + (nI k)) - (v0 + (nI k)) / 12 * 12) / 3 * 3)))  (s7_pM (by decide) hh))) (s7_lf (s7_X8_reads (pM μ 8 9 ((10 * (((v0 + (nI k)) - (v0 + (nI k)) / 12 * 12) / 3)) + (((v0 + (nI k)) - (v0 + (nI k)) / 12 * 12) - ((v0 + (nI k)) - (v0 + (nI k)) / 12 * 12) / 3 * 3))) (sp_X8_inside (μ.1 8)  ((10 * (((v0 + (nI k)) - (v0 + (nI k)) / 12 * 12) / 3)) + (((v0 + (nI k)) - (v0 + (nI k)) / 12 * 12) - ((v0 + (nI k)) - (v0 + (nI k)) / 12 * 12) / 3 * 3)))  (s7_pM (by decide) hh))))))
theorem s7_X8_scans {x : Int32} (μ : Mu)    (hh : S7 x μ) : S7 x ((sp_X8_scans μ ).2) := by
  unfold sp_X8_scans
  exact (s7_ite (s7_lp_X8_scans_42 _ hh 13 (11 : Int32) 1) (s7_lp_X8_scans_42 _ hh 13 ((3 * ((μ.1 8 9) / 10)) + ((μ.1 8 9) - (μ.1 8 9) / 10 * 10)) 1))
def sp_X8_scan (μ : Mu)   : Int32 × Mu :=
  ((sp_X8_acted ((sp_X8_scans (pC μ 11 0 8 0 259)  ).2)  ((sp_X8_scans (pC μ 11 0 8 0 259)  ).1)).1, (sp_X8_acted ((sp_X8_scans (pC μ 11 0 8 0 259)  ).2)  ((sp_X8_scans (pC μ 11 0 8 0 259)  ).1)).2)
set_option maxHeartbeats 4000000 in
set_option maxRecDepth 100000 in
theorem k_X8_scan (l : Launch) (E : En) (μ : Mu)   (hG : RG (μ.1 8)) (hSa : ∀ n, n < (μ.1 8 1).toNatClampNeg → RS (μ.1 8) n) (hst : ni 5 (μ.1 7 0)) : MtI l yX8_scan cX8_scan 1 .int ({ frames := 13, cells := 0, slots := 0, locals := 318 }) [.ref (E.1 (232))] E μ (sp_X8_scan μ ) := by
  refine mt_of (by decide +kernel) (Nat.le_of_ble_eq_true rfl) ?_
  intro p e s m args below meth c ls hf hr hlocks hl hw
  have hx := hf.1
  have hb := hf.2.1
  have hl : lv_has ls 1 [(0, .ref (E.1 (232)))] := hl
  have hI := hG.1
  refine lv_aload_n hx hb dX8_scan_0 rfl (lv_at hl 0 rfl) ?_
  refine c_v hw (run_V (As := []) (rest := []) (np := 0) hf hw (kn_X8_keeps l E _    ) ⟨gl_V q146 q147 q148 q5 q149, by decide +kernel⟩ ⟨rfl, rfl, Nat.le_of_ble_eq_true rfl, Nat.le_of_ble_eq_true rfl⟩ (by decide) (c_R E _) rfl rfl hl.1 rfl (Nat.le_of_ble_eq_true rfl) dX8_scan_1 ⟨Nat.zero_le _, Nat.zero_le _⟩) (fun H locs hw => ?_)
  refine lv_aload_n hx hb dX8_scan_4 rfl (lv_at hl 0 rfl) ?_
  refine lv_aload_n hx hb dX8_scan_5 rfl (lv_at hl 0 rfl) ?_
  refine c_i hw (run_V (As := []) (rest := [.ref (E.1 (232))]) (np := 0) hf hw (k_X8_scans l E _    (by first | exact hG | (simp only [pC_row (show (8 : Nat) ≠ 11 by decide)]; exact hG)) (by first | exact hSa | (simp only [pC_row (show (8 : Nat) ≠ 11 by decide)]; exact hSa))) ⟨gl_V q806 q807 q808 q5 q809, by decide +kernel⟩ ⟨rfl, rfl, Nat.le_of_ble_eq_true rfl, Nat.le_of_ble_eq_true rfl⟩ (by decide) (c_R E _) rfl rfl hl.1 rfl (Nat.le_of_ble_eq_true rfl) dX8_scan_6 ⟨Nat.zero_le _, Nat.zero_le _⟩) (fun H locs hw => ?_)
  refine c_i hw (run_V (As := [.int ((sp_X8_scans (pC μ 11 0 8 0 259)  ).1)]) (rest := []) (np := 1) hf hw (k_X8_acted l E _  ((sp_X8_scans (pC μ 11 0 8 0 259)  ).1)  (s7_ni (x := μ.1 7 0) (s7_X8_scans (pC μ 11 0 8 0 259)  (s7_pC (by decide) (rfl : S7 (μ.1 7 0) μ))) hst)) ⟨gl_V q150 q151 q152 q5 q153, by decide +kernel⟩ ⟨rfl, rfl, Nat.le_of_ble_eq_true rfl, Nat.le_of_ble_eq_true rfl⟩ (by decide) (c_R E _) rfl rfl hl.1 rfl (Nat.le_of_ble_eq_true rfl) dX8_scan_9 ⟨Nat.zero_le _, Nat.zero_le _⟩) (fun H locs hw => ?_)
  exact e_i hf hr hlocks hw rfl rfl dX8_scan_12
