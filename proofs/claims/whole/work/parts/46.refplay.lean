/-! ===== the reference: fault, play ===== -/
def sp_X8_fault (μ : Mu)  (a : Int32) : Int32 × Mu :=
  if (0 : Int32) ≤ a ∧ a ≤ (1 : Int32) then
    if ((sp_X8_faulty μ  ).1 : Int32) = (-2000000004) then
      ((sp_X8_faulty μ  ).1, (sp_X8_faulty μ  ).2)
    else
      if (a : Int32) = 0 then
        ((sp_X8_faulty μ  ).1, (sp_X8_faulty μ  ).2)
      else
        (((sp_X8_faulty μ  ).2).1 7 3, (sp_X8_faulty μ  ).2)
  else
    ((-2000000001), μ)
set_option maxHeartbeats 4000000 in
set_option maxRecDepth 100000 in
theorem k_X8_fault (l : Launch) (E : En) (μ : Mu)  (a : Int32) (hh : RGA μ) (hty : ni 61 (μ.1 7 1)) : MtI l yX8_fault cX8_fault 3 .int ({ frames := 16, cells := 0, slots := 0, locals := 383 }) [.ref (E.1 (232)), .int (a)] E μ (sp_X8_fault μ a) := by
  refine mt_of (by decide +kernel) (Nat.le_of_ble_eq_true rfl) ?_
  intro p e s m args below meth c ls hf hr hlocks hl hw
  have hx := hf.1
  have hb := hf.2.1
  have hl : lv_has ls 3 [(0, .ref (E.1 (232))), (1, .int (a))] := hl
  refine lv_iload_n hx hb dX8_fault_0 rfl (lv_at hl 1 rfl) ?_
  refine lv_iconst (v := 0) hx hb dX8_fault_1 (by decide) ?_
  refine lv_iconst (v := 1) hx hb dX8_fault_2 (by decide) ?_
  refine c_iR hw (run_S (As := [.int (a), .int 0, .int 1]) (rest := []) (np := 3) hf hw (kn_X8_in l E _  a (0 : Int32) (1 : Int32)  ) ⟨gl_S q207 q208 q5 q209, by decide +kernel⟩ ⟨rfl, rfl, Nat.le_of_ble_eq_true rfl, Nat.le_of_ble_eq_true rfl⟩ rfl hl.1 rfl (Nat.le_of_ble_eq_true rfl) dX8_fault_3 ⟨Nat.zero_le _, Nat.zero_le _⟩) (fun H locs hw => ?_)
  refine lv_if_ne (tgt := 12) hx hb dX8_fault_6 (by decide) (fun c1 => ?_) (fun c1 => ?_)
  · replace c1 := (bz_n0 _).mp c1
    have c1a := (na_lit 1 rfl (by decide) c1)
    have c1ab : a.toNatClampNeg < 2 := c1a.2
    refine lv_aload_n hx hb dX8_fault_12 rfl (lv_at hl 0 rfl) ?_
    refine c_i hw (run_V (As := []) (rest := []) (np := 0) hf hw (k_X8_faulty l E _    hh hty) ⟨gl_V q989 q990 q991 q5 q992, by decide +kernel⟩ ⟨rfl, rfl, Nat.le_of_ble_eq_true rfl, Nat.le_of_ble_eq_true rfl⟩ (by decide) (c_R E _) rfl rfl hl.1 rfl (Nat.le_of_ble_eq_true rfl) dX8_fault_13 ⟨Nat.zero_le _, Nat.zero_le _⟩) (fun H locs hw => ?_)
    refine lv_istore_n (lv' := [(2, .int ((sp_X8_faulty μ  ).1)), (0, .ref (E.1 (232))), (1, .int (a))]) hx hb dX8_fault_16 rfl hl (by decide) rfl (fun ls hl => ?_)
    refine lv_iload_n hx hb dX8_fault_17 rfl (lv_at hl 0 rfl) ?_
    refine lv_ldc hx hb hf.2.2.2.1 (hf.2.2.2.2 _ q242) dX8_fault_18 ?_
    refine lv_icmp_eq (tgt := 27) hx hb dX8_fault_20 (by decide) (fun c2 => ?_) (fun c2 => ?_)
    · refine lv_iload_n hx hb dX8_fault_27 rfl (lv_at hl 0 rfl) ?_
      refine lv_goto (tgt := 35) hx hb dX8_fault_28 (by decide) ?_
      exact e_i hf hr hlocks hw rfl ((if_pos c1).trans ((if_pos c2).trans rfl)) dX8_fault_35
    · refine lv_iload_n hx hb dX8_fault_23 rfl (lv_at hl 2 rfl) ?_
      refine lv_if_ne (tgt := 31) hx hb dX8_fault_24 (by decide) (fun c3 => ?_) (fun c3 => ?_)
      · refine lv_aload_n hx hb dX8_fault_31 rfl (lv_at hl 1 rfl) ?_
        refine g_f hw hf (by decide) (c_R E _) rfl inlX8 8 (by decide) rfl q988 rfl dX8_fault_32 ?_
        exact e_i hf hr hlocks hw rfl ((if_pos c1).trans ((if_neg c2).trans ((if_neg c3).trans rfl))) dX8_fault_35
      · refine lv_iload_n hx hb dX8_fault_27 rfl (lv_at hl 0 rfl) ?_
        refine lv_goto (tgt := 35) hx hb dX8_fault_28 (by decide) ?_
        exact e_i hf hr hlocks hw rfl ((if_pos c1).trans ((if_neg c2).trans ((if_pos c3).trans rfl))) dX8_fault_35
  · replace c1 := (bz_0 _).mp c1
    refine lv_ldc hx hb hf.2.2.2.1 (hf.2.2.2.2 _ q154) dX8_fault_9 ?_
    exact e_i hf hr hlocks hw rfl ((if_neg c1).trans rfl) dX8_fault_11
theorem e720 {m : Mu} {v : Int32} : (pM m 7 2 v).1 7 0 = m.1 7 0 := by simp [pM, upM]
theorem play_ty {μ : Mu} (hty : ni 61 (μ.1 7 1)) : ni 61 ((pC (sp_X8_faulty μ).2 11 0 8 0 259).1 7 1) := by rw [pC_row (by decide), (faulty_left hty).2.2.1]; exact hty
theorem play_st {μ : Mu} (hty : ni 61 (μ.1 7 1)) (hst : ni 5 (μ.1 7 0)) : ni 5 ((pM (pC (sp_X8_faulty μ).2 11 0 8 0 259) 7 2 (0 : Int32)).1 7 0) := by rw [e720, pC_row (by decide), (faulty_left hty).2.1]; exact hst
def lp_X8_play_23 (μ : Mu)   : Nat → Int32 → Mu → Int32 × Mu
  | 0, _, μ2 => (0, μ2)
  | f + 1, v, μ2 =>
    if (nI ((μ2.1 7 1).toNatClampNeg) : Int32) ≤ nI ((μ2.1 7 2).toNatClampNeg) then
      ((sp_X8_acted μ2  v).1, (sp_X8_acted μ2  v).2)
    else
      if ((sp_X8_doesNext μ2  ).1 : Int32) = 0 then
        lp_X8_play_23 μ  f (v + 1) ((sp_X8_doesNext μ2  ).2)
      else
        lp_X8_play_23 μ  f (v + 0) ((sp_X8_doesNext μ2  ).2)
def sp_X8_play (μ : Mu)   : Int32 × Mu :=
  if ((sp_X8_faulty μ  ).1 : Int32) = (-2000000004) then
    lp_X8_play_23 μ  62 (0 : Int32) (pM (pC ((sp_X8_faulty μ  ).2) 11 0 8 0 259) 7 2 (0 : Int32))
  else
    ((-2000000002), (sp_X8_faulty μ  ).2)
set_option maxHeartbeats 4000000 in
set_option maxRecDepth 100000 in
theorem k_X8_play (l : Launch) (E : En) (μ : Mu)   (hh : RGA μ) (hty : ni 61 (μ.1 7 1)) (hst : ni 5 (μ.1 7 0)) : MtI l yX8_play cX8_play 2 .int ({ frames := 16, cells := 0, slots := 0, locals := 383 }) [.ref (E.1 (232))] E μ (sp_X8_play μ ) := by
  refine mt_of (by decide +kernel) (Nat.le_of_ble_eq_true rfl) ?_
  intro p e s m args below meth c ls hf hr hlocks hl hw
  have hx := hf.1
  have hb := hf.2.1
  have hl : lv_has ls 2 [(0, .ref (E.1 (232)))] := hl
  refine lv_aload_n hx hb dX8_play_0 rfl (lv_at hl 0 rfl) ?_
  refine c_i hw (run_V (As := []) (rest := []) (np := 0) hf hw (k_X8_faulty l E _    hh hty) ⟨gl_V q989 q990 q991 q5 q992, by decide +kernel⟩ ⟨rfl, rfl, Nat.le_of_ble_eq_true rfl, Nat.le_of_ble_eq_true rfl⟩ (by decide) (c_R E _) rfl rfl hl.1 rfl (Nat.le_of_ble_eq_true rfl) dX8_play_1 ⟨Nat.zero_le _, Nat.zero_le _⟩) (fun H locs hw => ?_)
  refine lv_ldc hx hb hf.2.2.2.1 (hf.2.2.2.2 _ q242) dX8_play_4 ?_
  refine lv_icmp_eq (tgt := 12) hx hb dX8_play_6 (by decide) (fun c1 => ?_) (fun c1 => ?_)
  · refine lv_aload_n hx hb dX8_play_12 rfl (lv_at hl 0 rfl) ?_
    refine c_v hw (run_V (As := []) (rest := []) (np := 0) hf hw (kn_X8_keeps l E _    ) ⟨gl_V q146 q147 q148 q5 q149, by decide +kernel⟩ ⟨rfl, rfl, Nat.le_of_ble_eq_true rfl, Nat.le_of_ble_eq_true rfl⟩ (by decide) (c_R E _) rfl rfl hl.1 rfl (Nat.le_of_ble_eq_true rfl) dX8_play_13 ⟨Nat.zero_le _, Nat.zero_le _⟩) (fun H locs hw => ?_)
    refine lv_iconst (v := 0) hx hb dX8_play_16 (by decide) ?_
    refine lv_istore_n (lv' := [(1, .int 0), (0, .ref (E.1 (232)))]) hx hb dX8_play_17 rfl hl (by decide) rfl (fun ls hl => ?_)
    refine lv_aload_n hx hb dX8_play_18 rfl (lv_at hl 1 rfl) ?_
    refine lv_iconst (v := 0) hx hb dX8_play_19 (by decide) ?_
    refine p_f hw hf (by decide) (c_R E _) rfl inlX8 tyX8_ok nmX8 7 (by decide) rfl q993 rfl rfl rfl (Nat.le_of_ble_eq_true rfl) (s_R_7 E _ _) dX8_play_20 (fun H locs hw => ?_)
    have key_23 : ∀ (f : Nat) (v : Int32) (μ2 : Mu), 62 ≤ (μ2.1 7 2).toNatClampNeg + f → RGA μ2 → AT μ2 → ni 5 (μ2.1 7 0) → sp_X8_play μ  = lp_X8_play_23 μ  f v μ2 → ∀ (ls : Array Slot) (H : Heap) (locs : List Loc), lv_has ls 2 [(0, .ref (E.1 (232))), (1, .int (v))] → Wk E μ2 s H locs → W p l e ({ frames := 16, cells := 0, slots := 0, locals := 383 }) s m args below meth c H locs 0 0 (MQ below (va_Qi (fun r u => r = ((sp_X8_play μ )).1 ∧ u = ((sp_X8_play μ )).2) (fun u t => WdU E u t) (inE E)) args s 0 0 (inE E)) (F0 m 23 ls []) := by
      intro f
      induction f with
      | zero => intro v μ2 h1 hg2 ha2 hs2 hq ls H locs hl hw; exfalso; have q := ha2.2.2; omega
      | succ f ih =>
        intro v μ2 h1 hg2 ha2 hs2 hq ls H locs hl hw
        have ha21 := ha2.1.2
        have ha22 := ha2.2.2
        refine lv_aload_n hx hb dX8_play_23 rfl (lv_at hl 0 rfl) ?_
        refine g_f hw hf (by decide) (c_R E _) rfl inlX8 7 (by decide) rfl q993 rfl dX8_play_24 ?_
        have hb2 := ha2.2.2
        refine fold_i (show (μ2).1 7 2 = nI ((μ2.1 7 2).toNatClampNeg) from ha2.2.1) ?_
        refine lv_aload_n hx hb dX8_play_27 rfl (lv_at hl 0 rfl) ?_
        refine g_f hw hf (by decide) (c_R E _) rfl inlX8 6 (by decide) rfl q896 rfl dX8_play_28 ?_
        have hb3 := ha2.1.2
        refine fold_i (show (μ2).1 7 1 = nI ((μ2.1 7 1).toNatClampNeg) from ha2.1.1) ?_
        refine lv_icmp_ge (tgt := 52) hx hb dX8_play_31 (by decide) (fun c4 => ?_) (fun c4 => ?_)
        · have c4n : ((μ2.1 7 1).toNatClampNeg) ≤ ((μ2.1 7 2).toNatClampNeg) := by have q := (nI_leI (a := ((μ2.1 7 1).toNatClampNeg)) (b := ((μ2.1 7 2).toNatClampNeg)) (by omega) (by omega)); first | exact q.mp c4 | exact fun z => c4 (q.mpr z)
          refine lv_aload_n hx hb dX8_play_52 rfl (lv_at hl 0 rfl) ?_
          refine lv_iload_n hx hb dX8_play_53 rfl (lv_at hl 1 rfl) ?_
          refine c_i hw (run_V (As := [.int (v)]) (rest := []) (np := 1) hf hw (k_X8_acted l E _  v   hs2) ⟨gl_V q150 q151 q152 q5 q153, by decide +kernel⟩ ⟨rfl, rfl, Nat.le_of_ble_eq_true rfl, Nat.le_of_ble_eq_true rfl⟩ (by decide) (c_R E _) rfl rfl hl.1 rfl (Nat.le_of_ble_eq_true rfl) dX8_play_54 ⟨Nat.zero_le _, Nat.zero_le _⟩) (fun H locs hw => ?_)
          exact e_i hf hr hlocks hw rfl ((hq).trans ((if_pos c4).trans rfl)) dX8_play_57
        · have c4n : ¬ ((μ2.1 7 1).toNatClampNeg) ≤ ((μ2.1 7 2).toNatClampNeg) := by have q := (nI_leI (a := ((μ2.1 7 1).toNatClampNeg)) (b := ((μ2.1 7 2).toNatClampNeg)) (by omega) (by omega)); first | exact q.mp c4 | exact fun z => c4 (q.mpr z)
          refine lv_iload_n hx hb dX8_play_34 rfl (lv_at hl 1 rfl) ?_
          refine lv_aload_n hx hb dX8_play_35 rfl (lv_at hl 0 rfl) ?_
          refine c_i hw (run_V (As := []) (rest := [.int (v)]) (np := 0) hf hw (k_X8_doesNext l E _    hg2 ha2 (by omega)) ⟨gl_V q994 q995 q996 q5 q997, by decide +kernel⟩ ⟨rfl, rfl, Nat.le_of_ble_eq_true rfl, Nat.le_of_ble_eq_true rfl⟩ (by decide) (c_R E _) rfl rfl hl.1 rfl (Nat.le_of_ble_eq_true rfl) dX8_play_36 ⟨Nat.zero_le _, Nat.zero_le _⟩) (fun H locs hw => ?_)
          refine lv_if_ne (tgt := 46) hx hb dX8_play_39 (by decide) (fun c5 => ?_) (fun c5 => ?_)
          · refine lv_iconst (v := 0) hx hb dX8_play_46 (by decide) ?_
            refine lv_iadd hx hb dX8_play_47 ?_
            refine lv_istore_n (lv' := [(1, .int (v + 0)), (0, .ref (E.1 (232)))]) hx hb dX8_play_48 rfl hl (by decide) rfl (fun ls hl => ?_)
            refine lv_goto (tgt := 23) hx hb dX8_play_49 (by decide) ?_
            exact ih (v + 0) ((sp_X8_doesNext μ2  ).2) (by have q := (ag_X8_doesNext μ2 ha2 (by omega) (Nat.le_refl _)).2; omega) (rga_X8_doesNext μ2 hg2) (atp_X8_doesNext μ2 (by omega) ha2) (by rw [(of_X8_doesNext μ2 (m0 := μ2) of_rf).1]; exact hs2) (((hq).trans ((if_neg c4).trans ((if_neg c5).trans rfl)))) _ _ _ (lv_sub hl [1, 0] rfl) hw
          · refine lv_iconst (v := 1) hx hb dX8_play_42 (by decide) ?_
            refine lv_goto (tgt := 47) hx hb dX8_play_43 (by decide) ?_
            refine lv_iadd hx hb dX8_play_47 ?_
            refine lv_istore_n (lv' := [(1, .int (v + 1)), (0, .ref (E.1 (232)))]) hx hb dX8_play_48 rfl hl (by decide) rfl (fun ls hl => ?_)
            refine lv_goto (tgt := 23) hx hb dX8_play_49 (by decide) ?_
            exact ih (v + 1) ((sp_X8_doesNext μ2  ).2) (by have q := (ag_X8_doesNext μ2 ha2 (by omega) (Nat.le_refl _)).2; omega) (rga_X8_doesNext μ2 hg2) (atp_X8_doesNext μ2 (by omega) ha2) (by rw [(of_X8_doesNext μ2 (m0 := μ2) of_rf).1]; exact hs2) (((hq).trans ((if_neg c4).trans ((if_pos c5).trans rfl)))) _ _ _ (lv_sub hl [1, 0] rfl) hw
    exact key_23 62 (0 : Int32) (pM (pC ((sp_X8_faulty μ  ).2) 11 0 8 0 259) 7 2 (0 : Int32)) (by rw [at0_c]; omega) (rga_pM (by decide) (rga_pC (by decide) (rga_X8_faulty μ hty hh))) (at_70 (play_ty hty)) (play_st hty hst) (((if_pos c1).trans rfl)) _ _ _ (lv_sub hl [1, 0] rfl) hw
  · refine lv_ldc hx hb hf.2.2.2.1 (hf.2.2.2.2 _ q202) dX8_play_9 ?_
    exact e_i hf hr hlocks hw rfl ((if_neg c1).trans rfl) dX8_play_11
