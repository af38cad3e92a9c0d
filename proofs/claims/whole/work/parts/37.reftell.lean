/-! ===== the reference: what is measured, told ===== -/
theorem rng_c {c : Int32} (h : (100 : Int32) ≤ c ∧ c ≤ 5000) : 100 ≤ c.toInt ∧ c.toInt ≤ 5000 := by
  obtain ⟨h1, h2⟩ := h
  rw [Int32.le_iff_toInt_le] at h1 h2
  exact ⟨h1, h2⟩
def sp_X8_counts (g : Nat → Int32)  (a : Int32) (cu : Int32) (lp : Int32) (wy : Int32) : Int32 :=
  if 0 ≤ a ∧ a ≤ (g 1) - 1 then
    if (100 : Int32) ≤ cu ∧ cu ≤ (5000 : Int32) then
      if (0 : Int32) ≤ lp ∧ lp ≤ (1 : Int32) then
        if (0 : Int32) ≤ wy ∧ wy ≤ (2 : Int32) then
          if (nI (lp.toNatClampNeg) : Int32) = 1 then
            if (nI ((g (85 + 29 * a.toNatClampNeg + 1)).toNatClampNeg) : Int32) = 3 then
              (sp_X8_countsOf g  a.toNatClampNeg cu (nI (lp.toNatClampNeg)) (nI (wy.toNatClampNeg))).toInt32
            else
              (-2000000004)
          else
            (sp_X8_countsOf g  a.toNatClampNeg cu (nI (lp.toNatClampNeg)) (nI (wy.toNatClampNeg))).toInt32
        else
          (-2000000001)
      else
        (-2000000001)
    else
      (-2000000001)
  else
    (-2000000001)
set_option maxHeartbeats 4000000 in
set_option maxRecDepth 100000 in
theorem k_X8_counts (l : Launch) (E : En) (μ : Mu)  (a : Int32) (cu : Int32) (lp : Int32) (wy : Int32) (hG : RG (μ.1 8)) (hSa : ∀ n, n < (μ.1 8 1).toNatClampNeg → RS (μ.1 8) n) : MtI l yX8_counts cX8_counts 5 .int ({ frames := 7, cells := 0, slots := 0, locals := 174 }) [.ref (E.1 (232)), .int (a), .int (cu), .int (lp), .int (wy)] E μ ((sp_X8_counts (μ.1 8) a cu lp wy), μ) := by
  refine mt_of (by decide +kernel) (Nat.le_of_ble_eq_true rfl) ?_
  intro p e s m args below meth c ls hf hr hlocks hl hw
  have hx := hf.1
  have hb := hf.2.1
  have hl : lv_has ls 5 [(0, .ref (E.1 (232))), (1, .int (a)), (2, .int (cu)), (3, .int (lp)), (4, .int (wy))] := hl
  have hI := hG.1
  refine lv_aload_n hx hb dX8_counts_0 rfl (lv_at hl 0 rfl) ?_
  refine lv_iload_n hx hb dX8_counts_1 rfl (lv_at hl 1 rfl) ?_
  refine c_iR hw (run_V (As := [.int (a)]) (rest := []) (np := 1) hf hw (kn_X8_isSensor l E _  a  ) ⟨gl_V q370 q371 q372 q5 q373, by decide +kernel⟩ ⟨rfl, rfl, Nat.le_of_ble_eq_true rfl, Nat.le_of_ble_eq_true rfl⟩ (by decide) (c_R E _) rfl rfl hl.1 rfl (Nat.le_of_ble_eq_true rfl) dX8_counts_2 ⟨Nat.zero_le _, Nat.zero_le _⟩) (fun H locs hw => ?_)
  refine lv_if_eq (tgt := 39) hx hb dX8_counts_5 (by decide) (fun c1 => ?_) (fun c1 => ?_)
  · replace c1 := (bz_0 _).mp c1
    refine lv_ldc hx hb hf.2.2.2.1 (hf.2.2.2.2 _ q154) dX8_counts_39 ?_
    exact e_i hf hr hlocks hw rfl (congrArg (fun z => (z, μ)) ((if_neg c1).trans rfl)) dX8_counts_41
  · replace c1 := (bz_n0 _).mp c1
    have c1a := (ni_of hI.2.1 (by decide) c1)
    have c1ab : a.toNatClampNeg < 6 := Nat.lt_of_lt_of_le c1a.2 (Nat.le_of_lt_succ hI.2.1.2)
    refine lv_iload_n hx hb dX8_counts_8 rfl (lv_at hl 2 rfl) ?_
    refine lv_bipush (v := 100) hx hb dX8_counts_9 (by decide) ?_
    refine lv_sipush (v := 5000) hx hb dX8_counts_11 (by decide) ?_
    refine c_iR hw (run_S (As := [.int (cu), .int 100, .int 5000]) (rest := []) (np := 3) hf hw (kn_X8_in l E _  cu (100 : Int32) (5000 : Int32)  ) ⟨gl_S q207 q208 q5 q209, by decide +kernel⟩ ⟨rfl, rfl, Nat.le_of_ble_eq_true rfl, Nat.le_of_ble_eq_true rfl⟩ rfl hl.1 rfl (Nat.le_of_ble_eq_true rfl) dX8_counts_14 ⟨Nat.zero_le _, Nat.zero_le _⟩) (fun H locs hw => ?_)
    refine lv_if_eq (tgt := 39) hx hb dX8_counts_17 (by decide) (fun c2 => ?_) (fun c2 => ?_)
    · replace c2 := (bz_0 _).mp c2
      refine lv_ldc hx hb hf.2.2.2.1 (hf.2.2.2.2 _ q154) dX8_counts_39 ?_
      exact e_i hf hr hlocks hw rfl (congrArg (fun z => (z, μ)) ((if_pos c1).trans ((if_neg c2).trans rfl))) dX8_counts_41
    · replace c2 := (bz_n0 _).mp c2
      refine lv_iload_n hx hb dX8_counts_20 rfl (lv_at hl 3 rfl) ?_
      refine lv_iconst (v := 0) hx hb dX8_counts_21 (by decide) ?_
      refine lv_iconst (v := 1) hx hb dX8_counts_22 (by decide) ?_
      refine c_iR hw (run_S (As := [.int (lp), .int 0, .int 1]) (rest := []) (np := 3) hf hw (kn_X8_in l E _  lp (0 : Int32) (1 : Int32)  ) ⟨gl_S q207 q208 q5 q209, by decide +kernel⟩ ⟨rfl, rfl, Nat.le_of_ble_eq_true rfl, Nat.le_of_ble_eq_true rfl⟩ rfl hl.1 rfl (Nat.le_of_ble_eq_true rfl) dX8_counts_23 ⟨Nat.zero_le _, Nat.zero_le _⟩) (fun H locs hw => ?_)
      refine lv_if_eq (tgt := 39) hx hb dX8_counts_26 (by decide) (fun c3 => ?_) (fun c3 => ?_)
      · replace c3 := (bz_0 _).mp c3
        refine lv_ldc hx hb hf.2.2.2.1 (hf.2.2.2.2 _ q154) dX8_counts_39 ?_
        exact e_i hf hr hlocks hw rfl (congrArg (fun z => (z, μ)) ((if_pos c1).trans ((if_pos c2).trans ((if_neg c3).trans rfl)))) dX8_counts_41
      · replace c3 := (bz_n0 _).mp c3
        have c3a := (na_lit 1 rfl (by decide) c3)
        have c3ab : lp.toNatClampNeg < 2 := c3a.2
        refine lv_iload hx hb dX8_counts_29 (lv_at hl 4 rfl) ?_
        refine lv_iconst (v := 0) hx hb dX8_counts_31 (by decide) ?_
        refine lv_iconst (v := 2) hx hb dX8_counts_32 (by decide) ?_
        refine c_iR hw (run_S (As := [.int (wy), .int 0, .int 2]) (rest := []) (np := 3) hf hw (kn_X8_in l E _  wy (0 : Int32) (2 : Int32)  ) ⟨gl_S q207 q208 q5 q209, by decide +kernel⟩ ⟨rfl, rfl, Nat.le_of_ble_eq_true rfl, Nat.le_of_ble_eq_true rfl⟩ rfl hl.1 rfl (Nat.le_of_ble_eq_true rfl) dX8_counts_33 ⟨Nat.zero_le _, Nat.zero_le _⟩) (fun H locs hw => ?_)
        refine lv_if_ne (tgt := 42) hx hb dX8_counts_36 (by decide) (fun c4 => ?_) (fun c4 => ?_)
        · replace c4 := (bz_n0 _).mp c4
          have c4a := (na_lit 2 rfl (by decide) c4)
          have c4ab : wy.toNatClampNeg < 3 := c4a.2
          refine lv_iload_n hx hb dX8_counts_42 rfl (lv_at hl 3 rfl) ?_
          refine fold_i (show lp = nI (lp.toNatClampNeg) from c3a.1) ?_
          refine lv_iconst (v := 1) hx hb dX8_counts_43 (by decide) ?_
          refine lv_icmp_ne (tgt := 62) hx hb dX8_counts_44 (by decide) (fun c5 => ?_) (fun c5 => ?_)
          · have c5n : ¬ (lp.toNatClampNeg) = 1 := by have q := (nI_eq (a := (lp.toNatClampNeg)) (b := 1) (by omega) (by omega)); first | exact q.mp c5 | exact fun z => c5 (q.mpr z)
            refine lv_aload_n hx hb dX8_counts_62 rfl (lv_at hl 0 rfl) ?_
            refine lv_iload_n hx hb dX8_counts_63 rfl (lv_at hl 1 rfl) ?_
            refine fold_i (show a = nI (a.toNatClampNeg) from c1a.1) ?_
            refine lv_iload_n hx hb dX8_counts_64 rfl (lv_at hl 2 rfl) ?_
            refine lv_iload_n hx hb dX8_counts_65 rfl (lv_at hl 3 rfl) ?_
            refine fold_i (show lp = nI (lp.toNatClampNeg) from c3a.1) ?_
            refine lv_iload hx hb dX8_counts_66 (lv_at hl 4 rfl) ?_
            refine fold_i (show wy = nI (wy.toNatClampNeg) from c4a.1) ?_
            refine c_lR hw (run_V (As := [.int (nI (a.toNatClampNeg)), .int (cu), .int (nI (lp.toNatClampNeg)), .int (nI (wy.toNatClampNeg))]) (rest := []) (np := 4) hf hw (k_X8_countsOf l E _  a.toNatClampNeg cu (nI (lp.toNatClampNeg)) (nI (wy.toNatClampNeg))  hG (hSa _ c1a.2) (rng_c c2)) ⟨gl_V q645 q646 q647 q5 q648, by decide +kernel⟩ ⟨rfl, rfl, Nat.le_of_ble_eq_true rfl, Nat.le_of_ble_eq_true rfl⟩ (by decide) (c_R E _) rfl rfl hl.1 rfl (Nat.le_of_ble_eq_true rfl) dX8_counts_68 ⟨Nat.zero_le _, Nat.zero_le _⟩) (fun H locs hw => ?_)
            refine lv_l2i hx hb dX8_counts_71 rfl ?_
            exact e_i hf hr hlocks hw rfl (congrArg (fun z => (z, μ)) ((if_pos c1).trans ((if_pos c2).trans ((if_pos c3).trans ((if_pos c4).trans ((if_neg c5).trans rfl)))))) dX8_counts_72
          · have c5n : (lp.toNatClampNeg) = 1 := by have q := (nI_eq (a := (lp.toNatClampNeg)) (b := 1) (by omega) (by omega)); first | exact q.mp c5 | exact fun z => c5 (q.mpr z)
            refine lv_aload_n hx hb dX8_counts_47 rfl (lv_at hl 0 rfl) ?_
            refine lv_iload_n hx hb dX8_counts_48 rfl (lv_at hl 1 rfl) ?_
            refine fold_i (show a = nI (a.toNatClampNeg) from c1a.1) ?_
            refine lv_iconst (v := 1) hx hb dX8_counts_49 (by decide) ?_
            refine c_iR hw (run_V (As := [.int (nI (a.toNatClampNeg)), .int 1]) (rest := []) (np := 2) hf hw (kn_X8_of l E _  a.toNatClampNeg 1  (show a.toNatClampNeg < 6 from c1ab) (show 1 < 29 from (by decide))) ⟨gl_V q227 q228 q229 q5 q230, by decide +kernel⟩ ⟨rfl, rfl, Nat.le_of_ble_eq_true rfl, Nat.le_of_ble_eq_true rfl⟩ (by decide) (c_R E _) rfl rfl hl.1 rfl (Nat.le_of_ble_eq_true rfl) dX8_counts_50 ⟨Nat.zero_le _, Nat.zero_le _⟩) (fun H locs hw => ?_)
            have hb6 := ((hI).2.2.2 _ c1ab).2.2.2
            refine fold_i (show μ.1 8 (85 + 29 * a.toNatClampNeg + 1) = nI ((μ.1 8 (85 + 29 * a.toNatClampNeg + 1)).toNatClampNeg) from ((hI).2.2.2 _ c1ab).2.2.1) ?_
            refine lv_iconst (v := 3) hx hb dX8_counts_53 (by decide) ?_
            refine lv_icmp_eq (tgt := 62) hx hb dX8_counts_54 (by decide) (fun c7 => ?_) (fun c7 => ?_)
            · have c7n : ((μ.1 8 (85 + 29 * a.toNatClampNeg + 1)).toNatClampNeg) = 3 := by have q := (nI_eq (a := ((μ.1 8 (85 + 29 * a.toNatClampNeg + 1)).toNatClampNeg)) (b := 3) (by omega) (by omega)); first | exact q.mp c7 | exact fun z => c7 (q.mpr z)
              refine lv_aload_n hx hb dX8_counts_62 rfl (lv_at hl 0 rfl) ?_
              refine lv_iload_n hx hb dX8_counts_63 rfl (lv_at hl 1 rfl) ?_
              refine fold_i (show a = nI (a.toNatClampNeg) from c1a.1) ?_
              refine lv_iload_n hx hb dX8_counts_64 rfl (lv_at hl 2 rfl) ?_
              refine lv_iload_n hx hb dX8_counts_65 rfl (lv_at hl 3 rfl) ?_
              refine fold_i (show lp = nI (lp.toNatClampNeg) from c3a.1) ?_
              refine lv_iload hx hb dX8_counts_66 (lv_at hl 4 rfl) ?_
              refine fold_i (show wy = nI (wy.toNatClampNeg) from c4a.1) ?_
              refine c_lR hw (run_V (As := [.int (nI (a.toNatClampNeg)), .int (cu), .int (nI (lp.toNatClampNeg)), .int (nI (wy.toNatClampNeg))]) (rest := []) (np := 4) hf hw (k_X8_countsOf l E _  a.toNatClampNeg cu (nI (lp.toNatClampNeg)) (nI (wy.toNatClampNeg))  hG (hSa _ c1a.2) (rng_c c2)) ⟨gl_V q645 q646 q647 q5 q648, by decide +kernel⟩ ⟨rfl, rfl, Nat.le_of_ble_eq_true rfl, Nat.le_of_ble_eq_true rfl⟩ (by decide) (c_R E _) rfl rfl hl.1 rfl (Nat.le_of_ble_eq_true rfl) dX8_counts_68 ⟨Nat.zero_le _, Nat.zero_le _⟩) (fun H locs hw => ?_)
              refine lv_l2i hx hb dX8_counts_71 rfl ?_
              exact e_i hf hr hlocks hw rfl (congrArg (fun z => (z, μ)) ((if_pos c1).trans ((if_pos c2).trans ((if_pos c3).trans ((if_pos c4).trans ((if_pos c5).trans ((if_pos c7).trans rfl))))))) dX8_counts_72
            · have c7n : ¬ ((μ.1 8 (85 + 29 * a.toNatClampNeg + 1)).toNatClampNeg) = 3 := by have q := (nI_eq (a := ((μ.1 8 (85 + 29 * a.toNatClampNeg + 1)).toNatClampNeg)) (b := 3) (by omega) (by omega)); first | exact q.mp c7 | exact fun z => c7 (q.mpr z)
              refine lv_ldc hx hb hf.2.2.2.1 (hf.2.2.2.2 _ q242) dX8_counts_57 ?_
              refine lv_goto (tgt := 72) hx hb dX8_counts_59 (by decide) ?_
              exact e_i hf hr hlocks hw rfl (congrArg (fun z => (z, μ)) ((if_pos c1).trans ((if_pos c2).trans ((if_pos c3).trans ((if_pos c4).trans ((if_pos c5).trans ((if_neg c7).trans rfl))))))) dX8_counts_72
        · replace c4 := (bz_0 _).mp c4
          refine lv_ldc hx hb hf.2.2.2.1 (hf.2.2.2.2 _ q154) dX8_counts_39 ?_
          exact e_i hf hr hlocks hw rfl (congrArg (fun z => (z, μ)) ((if_pos c1).trans ((if_pos c2).trans ((if_pos c3).trans ((if_neg c4).trans rfl))))) dX8_counts_41
def sp_X8_ohms (g : Nat → Int32)  (a : Int32) (b : Int32) : Int32 :=
  if 0 ≤ a ∧ a ≤ (g 1) - 1 then
    if (0 : Int32) ≤ b ∧ b ≤ (5 : Int32) then
      if (nI (b.toNatClampNeg) : Int32) = 0 then
        (sp_X8_heated g  a.toNatClampNeg (g 3)).toInt32
      else
        if (nI (b.toNatClampNeg) : Int32) = 1 then
          if (nI (b.toNatClampNeg) : Int32) = 1 then
            (sp_X8_byCounts g  (sp_X8_countsOf g  a.toNatClampNeg (g 3) (0 : Int32) (0 : Int32))).toInt32
          else
            (sp_X8_byCounts g  (sp_X8_countsOf g  a.toNatClampNeg (g 3) (0 : Int32) (2 : Int32))).toInt32
        else
          if (nI (b.toNatClampNeg) : Int32) = 2 then
            if (nI (b.toNatClampNeg) : Int32) = 1 then
              (sp_X8_byCounts g  (sp_X8_countsOf g  a.toNatClampNeg (g 3) (0 : Int32) (0 : Int32))).toInt32
            else
              (sp_X8_byCounts g  (sp_X8_countsOf g  a.toNatClampNeg (g 3) (0 : Int32) (2 : Int32))).toInt32
          else
            if (nI (b.toNatClampNeg) : Int32) = 3 then
              (sp_X8_compensated g  a.toNatClampNeg (g 3)).toInt32
            else
              if (nI (b.toNatClampNeg) : Int32) = 4 then
                (sp_X8_compensated g  a.toNatClampNeg (g 4)).toInt32
              else
                (sp_X8_without g  a.toNatClampNeg).toInt32
    else
      (-2000000001)
  else
    (-2000000001)
set_option maxHeartbeats 4000000 in
set_option maxRecDepth 100000 in
theorem k_X8_ohms (l : Launch) (E : En) (μ : Mu)  (a : Int32) (b : Int32) (hG : RG (μ.1 8)) (hSa : ∀ n, n < (μ.1 8 1).toNatClampNeg → RS (μ.1 8) n) : MtI l yX8_ohms cX8_ohms 3 .int ({ frames := 9, cells := 0, slots := 0, locals := 229 }) [.ref (E.1 (232)), .int (a), .int (b)] E μ ((sp_X8_ohms (μ.1 8) a b), μ) := by
  refine mt_of (by decide +kernel) (Nat.le_of_ble_eq_true rfl) ?_
  intro p e s m args below meth c ls hf hr hlocks hl hw
  have hx := hf.1
  have hb := hf.2.1
  have hl : lv_has ls 3 [(0, .ref (E.1 (232))), (1, .int (a)), (2, .int (b))] := hl
  have hI := hG.1
  refine lv_aload_n hx hb dX8_ohms_0 rfl (lv_at hl 0 rfl) ?_
  refine lv_iload_n hx hb dX8_ohms_1 rfl (lv_at hl 1 rfl) ?_
  refine c_iR hw (run_V (As := [.int (a)]) (rest := []) (np := 1) hf hw (kn_X8_isSensor l E _  a  ) ⟨gl_V q370 q371 q372 q5 q373, by decide +kernel⟩ ⟨rfl, rfl, Nat.le_of_ble_eq_true rfl, Nat.le_of_ble_eq_true rfl⟩ (by decide) (c_R E _) rfl rfl hl.1 rfl (Nat.le_of_ble_eq_true rfl) dX8_ohms_2 ⟨Nat.zero_le _, Nat.zero_le _⟩) (fun H locs hw => ?_)
  refine lv_if_eq (tgt := 17) hx hb dX8_ohms_5 (by decide) (fun c1 => ?_) (fun c1 => ?_)
  · replace c1 := (bz_0 _).mp c1
    refine lv_ldc hx hb hf.2.2.2.1 (hf.2.2.2.2 _ q154) dX8_ohms_17 ?_
    exact e_i hf hr hlocks hw rfl (congrArg (fun z => (z, μ)) ((if_neg c1).trans rfl)) dX8_ohms_19
  · replace c1 := (bz_n0 _).mp c1
    have c1a := (ni_of hI.2.1 (by decide) c1)
    have c1ab : a.toNatClampNeg < 6 := Nat.lt_of_lt_of_le c1a.2 (Nat.le_of_lt_succ hI.2.1.2)
    refine lv_iload_n hx hb dX8_ohms_8 rfl (lv_at hl 2 rfl) ?_
    refine lv_iconst (v := 0) hx hb dX8_ohms_9 (by decide) ?_
    refine lv_iconst (v := 5) hx hb dX8_ohms_10 (by decide) ?_
    refine c_iR hw (run_S (As := [.int (b), .int 0, .int 5]) (rest := []) (np := 3) hf hw (kn_X8_in l E _  b (0 : Int32) (5 : Int32)  ) ⟨gl_S q207 q208 q5 q209, by decide +kernel⟩ ⟨rfl, rfl, Nat.le_of_ble_eq_true rfl, Nat.le_of_ble_eq_true rfl⟩ rfl hl.1 rfl (Nat.le_of_ble_eq_true rfl) dX8_ohms_11 ⟨Nat.zero_le _, Nat.zero_le _⟩) (fun H locs hw => ?_)
    refine lv_if_ne (tgt := 20) hx hb dX8_ohms_14 (by decide) (fun c2 => ?_) (fun c2 => ?_)
    · replace c2 := (bz_n0 _).mp c2
      have c2a := (na_lit 5 rfl (by decide) c2)
      have c2ab : b.toNatClampNeg < 6 := c2a.2
      refine lv_iload_n hx hb dX8_ohms_20 rfl (lv_at hl 2 rfl) ?_
      refine fold_i (show b = nI (b.toNatClampNeg) from c2a.1) ?_
      by_cases c3 : nI (b.toNatClampNeg) = 0
      · refine lv_tableIn (off := 35) (tgt := 56) hx hb dX8_ohms_21 (by rw [c3]; decide) (by rw [c3]; decide) (by rw [c3]; rfl) (by decide) ?_
        refine lv_aload_n hx hb dX8_ohms_56 rfl (lv_at hl 0 rfl) ?_
        refine lv_iload_n hx hb dX8_ohms_57 rfl (lv_at hl 1 rfl) ?_
        refine fold_i (show a = nI (a.toNatClampNeg) from c1a.1) ?_
        refine lv_aload_n hx hb dX8_ohms_58 rfl (lv_at hl 0 rfl) ?_
        refine g_f hw hf (by decide) (c_R E _) rfl inlX8 0 (by decide) rfl q90 rfl dX8_ohms_59 ?_
        refine lv_iconst (v := 3) hx hb dX8_ohms_62 (by decide) ?_
        refine g_a hw hf (by decide) (c_Rs E _) (vp_lit 3 259 (by decide) (by decide)) (tr_at (y := 3) (by decide) (by decide)) dX8_ohms_63 ?_
        refine c_lR hw (run_V (As := [.int (nI (a.toNatClampNeg)), .int (μ.1 8 3)]) (rest := []) (np := 2) hf hw (k_X8_heated l E _  a.toNatClampNeg (μ.1 8 3)  hG (hSa _ c1a.2) hG.2.2.2.1) ⟨gl_V q660 q661 q662 q5 q663, by decide +kernel⟩ ⟨rfl, rfl, Nat.le_of_ble_eq_true rfl, Nat.le_of_ble_eq_true rfl⟩ (by decide) (c_R E _) rfl rfl hl.1 rfl (Nat.le_of_ble_eq_true rfl) dX8_ohms_64 ⟨Nat.zero_le _, Nat.zero_le _⟩) (fun H locs hw => ?_)
        refine lv_l2i hx hb dX8_ohms_67 rfl ?_
        exact e_i hf hr hlocks hw rfl (congrArg (fun z => (z, μ)) ((if_pos c1).trans ((if_pos c2).trans ((if_pos c3).trans rfl)))) dX8_ohms_68
      · skip
        by_cases c4 : nI (b.toNatClampNeg) = 1
        · refine lv_tableIn (off := 48) (tgt := 69) hx hb dX8_ohms_21 (by rw [c4]; decide) (by rw [c4]; decide) (by rw [c4]; rfl) (by decide) ?_
          refine lv_aload_n hx hb dX8_ohms_69 rfl (lv_at hl 0 rfl) ?_
          refine lv_aload_n hx hb dX8_ohms_70 rfl (lv_at hl 0 rfl) ?_
          refine lv_iload_n hx hb dX8_ohms_71 rfl (lv_at hl 1 rfl) ?_
          refine fold_i (show a = nI (a.toNatClampNeg) from c1a.1) ?_
          refine lv_aload_n hx hb dX8_ohms_72 rfl (lv_at hl 0 rfl) ?_
          refine g_f hw hf (by decide) (c_R E _) rfl inlX8 0 (by decide) rfl q90 rfl dX8_ohms_73 ?_
          refine lv_iconst (v := 3) hx hb dX8_ohms_76 (by decide) ?_
          refine g_a hw hf (by decide) (c_Rs E _) (vp_lit 3 259 (by decide) (by decide)) (tr_at (y := 3) (by decide) (by decide)) dX8_ohms_77 ?_
          refine lv_iconst (v := 0) hx hb dX8_ohms_78 (by decide) ?_
          refine lv_iload_n hx hb dX8_ohms_79 rfl (lv_at hl 2 rfl) ?_
          refine fold_i (show b = nI (b.toNatClampNeg) from c2a.1) ?_
          refine lv_iconst (v := 1) hx hb dX8_ohms_80 (by decide) ?_
          refine lv_icmp_ne (tgt := 88) hx hb dX8_ohms_81 (by decide) (fun c5 => ?_) (fun c5 => ?_)
          · have c5n : ¬ (b.toNatClampNeg) = 1 := by have q := (nI_eq (a := (b.toNatClampNeg)) (b := 1) (by omega) (by omega)); first | exact q.mp c5 | exact fun z => c5 (q.mpr z)
            refine lv_iconst (v := 2) hx hb dX8_ohms_88 (by decide) ?_
            refine c_lR hw (run_V (As := [.int (nI (a.toNatClampNeg)), .int (μ.1 8 3), .int 0, .int 2]) (rest := [.ref (E.1 (232))]) (np := 4) hf hw (k_X8_countsOf l E _  a.toNatClampNeg (μ.1 8 3) (0 : Int32) (2 : Int32)  hG (hSa _ c1a.2) hG.2.2.2.1) ⟨gl_V q645 q646 q647 q5 q648, by decide +kernel⟩ ⟨rfl, rfl, Nat.le_of_ble_eq_true rfl, Nat.le_of_ble_eq_true rfl⟩ (by decide) (c_R E _) rfl rfl hl.1 rfl (Nat.le_of_ble_eq_true rfl) dX8_ohms_89 ⟨Nat.zero_le _, Nat.zero_le _⟩) (fun H locs hw => ?_)
            refine c_lR hw (run_V (As := [.long (sp_X8_countsOf (μ.1 8)  a.toNatClampNeg (μ.1 8 3) (0 : Int32) (2 : Int32))]) (rest := []) (np := 1) hf hw (k_X8_byCounts l E _  (sp_X8_countsOf (μ.1 8)  a.toNatClampNeg (μ.1 8 3) (0 : Int32) (2 : Int32))  hG) ⟨gl_V q668 q669 q670 q5 q671, by decide +kernel⟩ ⟨rfl, rfl, Nat.le_of_ble_eq_true rfl, Nat.le_of_ble_eq_true rfl⟩ (by decide) (c_R E _) rfl rfl hl.1 rfl (Nat.le_of_ble_eq_true rfl) dX8_ohms_92 ⟨Nat.zero_le _, Nat.zero_le _⟩) (fun H locs hw => ?_)
            refine lv_l2i hx hb dX8_ohms_95 rfl ?_
            exact e_i hf hr hlocks hw rfl (congrArg (fun z => (z, μ)) ((if_pos c1).trans ((if_pos c2).trans ((if_neg c3).trans ((if_pos c4).trans ((if_neg c5).trans rfl)))))) dX8_ohms_96
          · have c5n : (b.toNatClampNeg) = 1 := by have q := (nI_eq (a := (b.toNatClampNeg)) (b := 1) (by omega) (by omega)); first | exact q.mp c5 | exact fun z => c5 (q.mpr z)
            refine lv_iconst (v := 0) hx hb dX8_ohms_84 (by decide) ?_
            refine lv_goto (tgt := 89) hx hb dX8_ohms_85 (by decide) ?_
            refine c_lR hw (run_V (As := [.int (nI (a.toNatClampNeg)), .int (μ.1 8 3), .int 0, .int 0]) (rest := [.ref (E.1 (232))]) (np := 4) hf hw (k_X8_countsOf l E _  a.toNatClampNeg (μ.1 8 3) (0 : Int32) (0 : Int32)  hG (hSa _ c1a.2) hG.2.2.2.1) ⟨gl_V q645 q646 q647 q5 q648, by decide +kernel⟩ ⟨rfl, rfl, Nat.le_of_ble_eq_true rfl, Nat.le_of_ble_eq_true rfl⟩ (by decide) (c_R E _) rfl rfl hl.1 rfl (Nat.le_of_ble_eq_true rfl) dX8_ohms_89 ⟨Nat.zero_le _, Nat.zero_le _⟩) (fun H locs hw => ?_)
            refine c_lR hw (run_V (As := [.long (sp_X8_countsOf (μ.1 8)  a.toNatClampNeg (μ.1 8 3) (0 : Int32) (0 : Int32))]) (rest := []) (np := 1) hf hw (k_X8_byCounts l E _  (sp_X8_countsOf (μ.1 8)  a.toNatClampNeg (μ.1 8 3) (0 : Int32) (0 : Int32))  hG) ⟨gl_V q668 q669 q670 q5 q671, by decide +kernel⟩ ⟨rfl, rfl, Nat.le_of_ble_eq_true rfl, Nat.le_of_ble_eq_true rfl⟩ (by decide) (c_R E _) rfl rfl hl.1 rfl (Nat.le_of_ble_eq_true rfl) dX8_ohms_92 ⟨Nat.zero_le _, Nat.zero_le _⟩) (fun H locs hw => ?_)
            refine lv_l2i hx hb dX8_ohms_95 rfl ?_
            exact e_i hf hr hlocks hw rfl (congrArg (fun z => (z, μ)) ((if_pos c1).trans ((if_pos c2).trans ((if_neg c3).trans ((if_pos c4).trans ((if_pos c5).trans rfl)))))) dX8_ohms_96
        · skip
          by_cases c6 : nI (b.toNatClampNeg) = 2
          · refine lv_tableIn (off := 48) (tgt := 69) hx hb dX8_ohms_21 (by rw [c6]; decide) (by rw [c6]; decide) (by rw [c6]; rfl) (by decide) ?_
            refine lv_aload_n hx hb dX8_ohms_69 rfl (lv_at hl 0 rfl) ?_
            refine lv_aload_n hx hb dX8_ohms_70 rfl (lv_at hl 0 rfl) ?_
            refine lv_iload_n hx hb dX8_ohms_71 rfl (lv_at hl 1 rfl) ?_
            refine fold_i (show a = nI (a.toNatClampNeg) from c1a.1) ?_
            refine lv_aload_n hx hb dX8_ohms_72 rfl (lv_at hl 0 rfl) ?_
            refine g_f hw hf (by decide) (c_R E _) rfl inlX8 0 (by decide) rfl q90 rfl dX8_ohms_73 ?_
            refine lv_iconst (v := 3) hx hb dX8_ohms_76 (by decide) ?_
            refine g_a hw hf (by decide) (c_Rs E _) (vp_lit 3 259 (by decide) (by decide)) (tr_at (y := 3) (by decide) (by decide)) dX8_ohms_77 ?_
            refine lv_iconst (v := 0) hx hb dX8_ohms_78 (by decide) ?_
            refine lv_iload_n hx hb dX8_ohms_79 rfl (lv_at hl 2 rfl) ?_
            refine fold_i (show b = nI (b.toNatClampNeg) from c2a.1) ?_
            refine lv_iconst (v := 1) hx hb dX8_ohms_80 (by decide) ?_
            refine lv_icmp_ne (tgt := 88) hx hb dX8_ohms_81 (by decide) (fun c7 => ?_) (fun c7 => ?_)
            · have c7n : ¬ (b.toNatClampNeg) = 1 := by have q := (nI_eq (a := (b.toNatClampNeg)) (b := 1) (by omega) (by omega)); first | exact q.mp c7 | exact fun z => c7 (q.mpr z)
              refine lv_iconst (v := 2) hx hb dX8_ohms_88 (by decide) ?_
              refine c_lR hw (run_V (As := [.int (nI (a.toNatClampNeg)), .int (μ.1 8 3), .int 0, .int 2]) (rest := [.ref (E.1 (232))]) (np := 4) hf hw (k_X8_countsOf l E _  a.toNatClampNeg (μ.1 8 3) (0 : Int32) (2 : Int32)  hG (hSa _ c1a.2) hG.2.2.2.1) ⟨gl_V q645 q646 q647 q5 q648, by decide +kernel⟩ ⟨rfl, rfl, Nat.le_of_ble_eq_true rfl, Nat.le_of_ble_eq_true rfl⟩ (by decide) (c_R E _) rfl rfl hl.1 rfl (Nat.le_of_ble_eq_true rfl) dX8_ohms_89 ⟨Nat.zero_le _, Nat.zero_le _⟩) (fun H locs hw => ?_)
              refine c_lR hw (run_V (As := [.long (sp_X8_countsOf (μ.1 8)  a.toNatClampNeg (μ.1 8 3) (0 : Int32) (2 : Int32))]) (rest := []) (np := 1) hf hw (k_X8_byCounts l E _  (sp_X8_countsOf (μ.1 8)  a.toNatClampNeg (μ.1 8 3) (0 : Int32) (2 : Int32))  hG) ⟨gl_V q668 q669 q670 q5 q671, by decide +kernel⟩ ⟨rfl, rfl, Nat.le_of_ble_eq_true rfl, Nat.le_of_ble_eq_true rfl⟩ (by decide) (c_R E _) rfl rfl hl.1 rfl (Nat.le_of_ble_eq_true rfl) dX8_ohms_92 ⟨Nat.zero_le _, Nat.zero_le _⟩) (fun H locs hw => ?_)
              refine lv_l2i hx hb dX8_ohms_95 rfl ?_
              exact e_i hf hr hlocks hw rfl (congrArg (fun z => (z, μ)) ((if_pos c1).trans ((if_pos c2).trans ((if_neg c3).trans ((if_neg c4).trans ((if_pos c6).trans ((if_neg c7).trans rfl))))))) dX8_ohms_96
            · have c7n : (b.toNatClampNeg) = 1 := by have q := (nI_eq (a := (b.toNatClampNeg)) (b := 1) (by omega) (by omega)); first | exact q.mp c7 | exact fun z => c7 (q.mpr z)
              refine lv_iconst (v := 0) hx hb dX8_ohms_84 (by decide) ?_
              refine lv_goto (tgt := 89) hx hb dX8_ohms_85 (by decide) ?_
              refine c_lR hw (run_V (As := [.int (nI (a.toNatClampNeg)), .int (μ.1 8 3), .int 0, .int 0]) (rest := [.ref (E.1 (232))]) (np := 4) hf hw (k_X8_countsOf l E _  a.toNatClampNeg (μ.1 8 3) (0 : Int32) (0 : Int32)  hG (hSa _ c1a.2) hG.2.2.2.1) ⟨gl_V q645 q646 q647 q5 q648, by decide +kernel⟩ ⟨rfl, rfl, Nat.le_of_ble_eq_true rfl, Nat.le_of_ble_eq_true rfl⟩ (by decide) (c_R E _) rfl rfl hl.1 rfl (Nat.le_of_ble_eq_true rfl) dX8_ohms_89 ⟨Nat.zero_le _, Nat.zero_le _⟩) (fun H locs hw => ?_)
              refine c_lR hw (run_V (As := [.long (sp_X8_countsOf (μ.1 8)  a.toNatClampNeg (μ.1 8 3) (0 : Int32) (0 : Int32))]) (rest := []) (np := 1) hf hw (k_X8_byCounts l E _  (sp_X8_countsOf (μ.1 8)  a.toNatClampNeg (μ.1 8 3) (0 : Int32) (0 : Int32))  hG) ⟨gl_V q668 q669 q670 q5 q671, by decide +kernel⟩ ⟨rfl, rfl, Nat.le_of_ble_eq_true rfl, Nat.le_of_ble_eq_true rfl⟩ (by decide) (c_R E _) rfl rfl hl.1 rfl (Nat.le_of_ble_eq_true rfl) dX8_ohms_92 ⟨Nat.zero_le _, Nat.zero_le _⟩) (fun H locs hw => ?_)
              refine lv_l2i hx hb dX8_ohms_95 rfl ?_
              exact e_i hf hr hlocks hw rfl (congrArg (fun z => (z, μ)) ((if_pos c1).trans ((if_pos c2).trans ((if_neg c3).trans ((if_neg c4).trans ((if_pos c6).trans ((if_pos c7).trans rfl))))))) dX8_ohms_96
          · skip
            by_cases c8 : nI (b.toNatClampNeg) = 3
            · refine lv_tableIn (off := 76) (tgt := 97) hx hb dX8_ohms_21 (by rw [c8]; decide) (by rw [c8]; decide) (by rw [c8]; rfl) (by decide) ?_
              refine lv_aload_n hx hb dX8_ohms_97 rfl (lv_at hl 0 rfl) ?_
              refine lv_iload_n hx hb dX8_ohms_98 rfl (lv_at hl 1 rfl) ?_
              refine fold_i (show a = nI (a.toNatClampNeg) from c1a.1) ?_
              refine lv_aload_n hx hb dX8_ohms_99 rfl (lv_at hl 0 rfl) ?_
              refine g_f hw hf (by decide) (c_R E _) rfl inlX8 0 (by decide) rfl q90 rfl dX8_ohms_100 ?_
              refine lv_iconst (v := 3) hx hb dX8_ohms_103 (by decide) ?_
              refine g_a hw hf (by decide) (c_Rs E _) (vp_lit 3 259 (by decide) (by decide)) (tr_at (y := 3) (by decide) (by decide)) dX8_ohms_104 ?_
              refine c_lR hw (run_V (As := [.int (nI (a.toNatClampNeg)), .int (μ.1 8 3)]) (rest := []) (np := 2) hf hw (k_X8_compensated l E _  a.toNatClampNeg (μ.1 8 3)  hG (hSa _ c1a.2) hG.2.2.2.1) ⟨gl_V q641 q642 q643 q5 q644, by decide +kernel⟩ ⟨rfl, rfl, Nat.le_of_ble_eq_true rfl, Nat.le_of_ble_eq_true rfl⟩ (by decide) (c_R E _) rfl rfl hl.1 rfl (Nat.le_of_ble_eq_true rfl) dX8_ohms_105 ⟨Nat.zero_le _, Nat.zero_le _⟩) (fun H locs hw => ?_)
              refine lv_l2i hx hb dX8_ohms_108 rfl ?_
              exact e_i hf hr hlocks hw rfl (congrArg (fun z => (z, μ)) ((if_pos c1).trans ((if_pos c2).trans ((if_neg c3).trans ((if_neg c4).trans ((if_neg c6).trans ((if_pos c8).trans rfl))))))) dX8_ohms_109
            · skip
              by_cases c9 : nI (b.toNatClampNeg) = 4
              · refine lv_tableIn (off := 89) (tgt := 110) hx hb dX8_ohms_21 (by rw [c9]; decide) (by rw [c9]; decide) (by rw [c9]; rfl) (by decide) ?_
                refine lv_aload_n hx hb dX8_ohms_110 rfl (lv_at hl 0 rfl) ?_
                refine lv_iload_n hx hb dX8_ohms_111 rfl (lv_at hl 1 rfl) ?_
                refine fold_i (show a = nI (a.toNatClampNeg) from c1a.1) ?_
                refine lv_aload_n hx hb dX8_ohms_112 rfl (lv_at hl 0 rfl) ?_
                refine g_f hw hf (by decide) (c_R E _) rfl inlX8 0 (by decide) rfl q90 rfl dX8_ohms_113 ?_
                refine lv_iconst (v := 4) hx hb dX8_ohms_116 (by decide) ?_
                refine g_a hw hf (by decide) (c_Rs E _) (vp_lit 4 259 (by decide) (by decide)) (tr_at (y := 4) (by decide) (by decide)) dX8_ohms_117 ?_
                refine c_lR hw (run_V (As := [.int (nI (a.toNatClampNeg)), .int (μ.1 8 4)]) (rest := []) (np := 2) hf hw (k_X8_compensated l E _  a.toNatClampNeg (μ.1 8 4)  hG (hSa _ c1a.2) hG.2.2.2.2.1) ⟨gl_V q641 q642 q643 q5 q644, by decide +kernel⟩ ⟨rfl, rfl, Nat.le_of_ble_eq_true rfl, Nat.le_of_ble_eq_true rfl⟩ (by decide) (c_R E _) rfl rfl hl.1 rfl (Nat.le_of_ble_eq_true rfl) dX8_ohms_118 ⟨Nat.zero_le _, Nat.zero_le _⟩) (fun H locs hw => ?_)
                refine lv_l2i hx hb dX8_ohms_121 rfl ?_
                exact e_i hf hr hlocks hw rfl (congrArg (fun z => (z, μ)) ((if_pos c1).trans ((if_pos c2).trans ((if_neg c3).trans ((if_neg c4).trans ((if_neg c6).trans ((if_neg c8).trans ((if_pos c9).trans rfl)))))))) dX8_ohms_122
              · skip
                have hsw : (nI (b.toNatClampNeg)).toInt ≠ 0 ∧ (nI (b.toNatClampNeg)).toInt ≠ 1 ∧ (nI (b.toNatClampNeg)).toInt ≠ 2 ∧ (nI (b.toNatClampNeg)).toInt ≠ 3 ∧ (nI (b.toNatClampNeg)).toInt ≠ 4 := ⟨ne_toInt c3 (by decide), ne_toInt c4 (by decide), ne_toInt c6 (by decide), ne_toInt c8 (by decide), ne_toInt c9 (by decide)⟩
                refine lv_tableOut (tgt := 123) hx hb dX8_ohms_21 (by omega) (by decide) ?_
                refine lv_aload_n hx hb dX8_ohms_123 rfl (lv_at hl 0 rfl) ?_
                refine lv_iload_n hx hb dX8_ohms_124 rfl (lv_at hl 1 rfl) ?_
                refine fold_i (show a = nI (a.toNatClampNeg) from c1a.1) ?_
                refine c_lR hw (run_V (As := [.int (nI (a.toNatClampNeg))]) (rest := []) (np := 1) hf hw (k_X8_without l E _  a.toNatClampNeg  hG (hSa _ c1a.2)) ⟨gl_V q635 q636 q637 q5 q638, by decide +kernel⟩ ⟨rfl, rfl, Nat.le_of_ble_eq_true rfl, Nat.le_of_ble_eq_true rfl⟩ (by decide) (c_R E _) rfl rfl hl.1 rfl (Nat.le_of_ble_eq_true rfl) dX8_ohms_125 ⟨Nat.zero_le _, Nat.zero_le _⟩) (fun H locs hw => ?_)
                refine lv_l2i hx hb dX8_ohms_128 rfl ?_
                exact e_i hf hr hlocks hw rfl (congrArg (fun z => (z, μ)) ((if_pos c1).trans ((if_pos c2).trans ((if_neg c3).trans ((if_neg c4).trans ((if_neg c6).trans ((if_neg c8).trans ((if_neg c9).trans rfl)))))))) dX8_ohms_129
    · replace c2 := (bz_0 _).mp c2
      refine lv_ldc hx hb hf.2.2.2.1 (hf.2.2.2.2 _ q154) dX8_ohms_17 ?_
      exact e_i hf hr hlocks hw rfl (congrArg (fun z => (z, μ)) ((if_pos c1).trans ((if_neg c2).trans rfl))) dX8_ohms_19
def sp_X8_diagnosis (g : Nat → Int32)  (a : Int32) : Int32 :=
  if 0 ≤ a ∧ a ≤ (g 1) - 1 then
    sp_X8_diagnosed g  a.toNatClampNeg
  else
    (-2000000001)
set_option maxHeartbeats 4000000 in
set_option maxRecDepth 100000 in
theorem k_X8_diagnosis (l : Launch) (E : En) (μ : Mu)  (a : Int32) (hG : RG (μ.1 8)) (hSa : ∀ n, n < (μ.1 8 1).toNatClampNeg → RS (μ.1 8) n) : MtI l yX8_diagnosis cX8_diagnosis 2 .int ({ frames := 11, cells := 0, slots := 0, locals := 271 }) [.ref (E.1 (232)), .int (a)] E μ ((sp_X8_diagnosis (μ.1 8) a), μ) := by
  refine mt_of (by decide +kernel) (Nat.le_of_ble_eq_true rfl) ?_
  intro p e s m args below meth c ls hf hr hlocks hl hw
  have hx := hf.1
  have hb := hf.2.1
  have hl : lv_has ls 2 [(0, .ref (E.1 (232))), (1, .int (a))] := hl
  have hI := hG.1
  refine lv_aload_n hx hb dX8_diagnosis_0 rfl (lv_at hl 0 rfl) ?_
  refine lv_iload_n hx hb dX8_diagnosis_1 rfl (lv_at hl 1 rfl) ?_
  refine c_iR hw (run_V (As := [.int (a)]) (rest := []) (np := 1) hf hw (kn_X8_isSensor l E _  a  ) ⟨gl_V q370 q371 q372 q5 q373, by decide +kernel⟩ ⟨rfl, rfl, Nat.le_of_ble_eq_true rfl, Nat.le_of_ble_eq_true rfl⟩ (by decide) (c_R E _) rfl rfl hl.1 rfl (Nat.le_of_ble_eq_true rfl) dX8_diagnosis_2 ⟨Nat.zero_le _, Nat.zero_le _⟩) (fun H locs hw => ?_)
  refine lv_if_eq (tgt := 16) hx hb dX8_diagnosis_5 (by decide) (fun c1 => ?_) (fun c1 => ?_)
  · replace c1 := (bz_0 _).mp c1
    refine lv_ldc hx hb hf.2.2.2.1 (hf.2.2.2.2 _ q154) dX8_diagnosis_16 ?_
    exact e_i hf hr hlocks hw rfl (congrArg (fun z => (z, μ)) ((if_neg c1).trans rfl)) dX8_diagnosis_18
  · replace c1 := (bz_n0 _).mp c1
    have c1a := (ni_of hI.2.1 (by decide) c1)
    have c1ab : a.toNatClampNeg < 6 := Nat.lt_of_lt_of_le c1a.2 (Nat.le_of_lt_succ hI.2.1.2)
    refine lv_aload_n hx hb dX8_diagnosis_8 rfl (lv_at hl 0 rfl) ?_
    refine lv_iload_n hx hb dX8_diagnosis_9 rfl (lv_at hl 1 rfl) ?_
    refine fold_i (show a = nI (a.toNatClampNeg) from c1a.1) ?_
    refine c_iR hw (run_V (As := [.int (nI (a.toNatClampNeg))]) (rest := []) (np := 1) hf hw (k_X8_diagnosed l E _  a.toNatClampNeg  hG (hSa _ c1a.2)) ⟨gl_V q631 q632 q633 q5 q634, by decide +kernel⟩ ⟨rfl, rfl, Nat.le_of_ble_eq_true rfl, Nat.le_of_ble_eq_true rfl⟩ (by decide) (c_R E _) rfl rfl hl.1 rfl (Nat.le_of_ble_eq_true rfl) dX8_diagnosis_10 ⟨Nat.zero_le _, Nat.zero_le _⟩) (fun H locs hw => ?_)
    refine lv_goto (tgt := 18) hx hb dX8_diagnosis_13 (by decide) ?_
    exact e_i hf hr hlocks hw rfl (congrArg (fun z => (z, μ)) ((if_pos c1).trans rfl)) dX8_diagnosis_18
