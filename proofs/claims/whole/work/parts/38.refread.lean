/-! ===== the reference: calibrating, reading ===== -/
theorem nzR {x : Int32} (h : 1 ≤ x.toInt) : ¬ x.toInt64 = 0 := by
  intro q
  have e := congrArg Int64.toInt q
  rw [Int32.toInt_toInt64, show (0 : Int64).toInt = 0 by decide] at e
  omega
def sp_X8_calibrate (μ : Mu)  (a : Int32) (b : Int32) : Int32 × Mu :=
  if 0 ≤ a ∧ a ≤ (μ.1 8 1) - 1 then
    if (-200000) ≤ b ∧ b ≤ 850000 then
      if (1 : Int32) ≤ (sp_X8_diagnosed (μ.1 8)  a.toNatClampNeg) ∧ (sp_X8_diagnosed (μ.1 8)  a.toNatClampNeg) ≤ (4 : Int32) then
        ((-2000000002), μ)
      else
        if 2 ≤ rN (μ.1 8) (oN (μ.1 8) a.toNatClampNeg) ∧ (μ.1 8 (11 + 25 * (oN (μ.1 8) a.toNatClampNeg) + 0)) ≤ b ∧ b ≤ rL (μ.1 8) (oN (μ.1 8) a.toNatClampNeg) then
          if (1000 : Int64) ≤ (((sp_X8_without (μ.1 8)  a.toNatClampNeg) * 1000000) / ((sp_X8_ratioAt (μ.1 8)  (oN (μ.1 8) a.toNatClampNeg) b).toInt64)) ∧ (((sp_X8_without (μ.1 8)  a.toNatClampNeg) * 1000000) / ((sp_X8_ratioAt (μ.1 8)  (oN (μ.1 8) a.toNatClampNeg) b).toInt64)) ≤ 2000000 then
            ((sp_X8_acted (pM (pC μ 11 0 8 0 259) 8 (85 + 29 * a.toNatClampNeg + 3) ((((sp_X8_without (μ.1 8)  a.toNatClampNeg) * 1000000) / ((sp_X8_ratioAt (μ.1 8)  (oN (μ.1 8) a.toNatClampNeg) b).toInt64)).toInt32))  ((((sp_X8_without (μ.1 8)  a.toNatClampNeg) * 1000000) / ((sp_X8_ratioAt (μ.1 8)  (oN (μ.1 8) a.toNatClampNeg) b).toInt64)).toInt32)).1, (sp_X8_acted (pM (pC μ 11 0 8 0 259) 8 (85 + 29 * a.toNatClampNeg + 3) ((((sp_X8_without (μ.1 8)  a.toNatClampNeg) * 1000000) / ((sp_X8_ratioAt (μ.1 8)  (oN (μ.1 8) a.toNatClampNeg) b).toInt64)).toInt32))  ((((sp_X8_without (μ.1 8)  a.toNatClampNeg) * 1000000) / ((sp_X8_ratioAt (μ.1 8)  (oN (μ.1 8) a.toNatClampNeg) b).toInt64)).toInt32)).2)
          else
            ((-2000000002), μ)
        else
          ((-2000000002), μ)
    else
      ((-2000000001), μ)
  else
    ((-2000000001), μ)
set_option maxHeartbeats 4000000 in
set_option maxRecDepth 100000 in
theorem k_X8_calibrate (l : Launch) (E : En) (μ : Mu)  (a : Int32) (b : Int32) (hG : RG (μ.1 8)) (hSa : ∀ n, n < (μ.1 8 1).toNatClampNeg → RS (μ.1 8) n) (hst : ni 5 (μ.1 7 0)) : MtI l yX8_calibrate cX8_calibrate 5 .int ({ frames := 11, cells := 0, slots := 0, locals := 271 }) [.ref (E.1 (232)), .int (a), .int (b)] E μ (sp_X8_calibrate μ a b) := by
  refine mt_of (by decide +kernel) (Nat.le_of_ble_eq_true rfl) ?_
  intro p e s m args below meth c ls hf hr hlocks hl hw
  have hx := hf.1
  have hb := hf.2.1
  have hl : lv_has ls 5 [(0, .ref (E.1 (232))), (1, .int (a)), (2, .int (b))] := hl
  have hI := hG.1
  refine lv_aload_n hx hb dX8_calibrate_0 rfl (lv_at hl 0 rfl) ?_
  refine lv_iload_n hx hb dX8_calibrate_1 rfl (lv_at hl 1 rfl) ?_
  refine c_iR hw (run_V (As := [.int (a)]) (rest := []) (np := 1) hf hw (kn_X8_isSensor l E _  a  ) ⟨gl_V q370 q371 q372 q5 q373, by decide +kernel⟩ ⟨rfl, rfl, Nat.le_of_ble_eq_true rfl, Nat.le_of_ble_eq_true rfl⟩ (by decide) (c_R E _) rfl rfl hl.1 rfl (Nat.le_of_ble_eq_true rfl) dX8_calibrate_2 ⟨Nat.zero_le _, Nat.zero_le _⟩) (fun H locs hw => ?_)
  refine lv_if_eq (tgt := 15) hx hb dX8_calibrate_5 (by decide) (fun c1 => ?_) (fun c1 => ?_)
  · replace c1 := (bz_0 _).mp c1
    refine lv_ldc hx hb hf.2.2.2.1 (hf.2.2.2.2 _ q154) dX8_calibrate_15 ?_
    exact e_i hf hr hlocks hw rfl ((if_neg c1).trans rfl) dX8_calibrate_17
  · replace c1 := (bz_n0 _).mp c1
    have c1a := (ni_of hI.2.1 (by decide) c1)
    have c1ab : a.toNatClampNeg < 6 := Nat.lt_of_lt_of_le c1a.2 (Nat.le_of_lt_succ hI.2.1.2)
    refine lv_iload_n hx hb dX8_calibrate_8 rfl (lv_at hl 2 rfl) ?_
    refine c_iR hw (run_S (As := [.int (b)]) (rest := []) (np := 1) hf hw (kn_X8_isDegree l E _  b  ) ⟨gl_S q210 q211 q5 q212, by decide +kernel⟩ ⟨rfl, rfl, Nat.le_of_ble_eq_true rfl, Nat.le_of_ble_eq_true rfl⟩ rfl hl.1 rfl (Nat.le_of_ble_eq_true rfl) dX8_calibrate_9 ⟨Nat.zero_le _, Nat.zero_le _⟩) (fun H locs hw => ?_)
    refine lv_if_ne (tgt := 18) hx hb dX8_calibrate_12 (by decide) (fun c2 => ?_) (fun c2 => ?_)
    · replace c2 := (bz_n0 _).mp c2
      refine lv_aload_n hx hb dX8_calibrate_18 rfl (lv_at hl 0 rfl) ?_
      refine lv_iload_n hx hb dX8_calibrate_19 rfl (lv_at hl 1 rfl) ?_
      refine fold_i (show a = nI (a.toNatClampNeg) from c1a.1) ?_
      refine c_iR hw (run_V (As := [.int (nI (a.toNatClampNeg))]) (rest := []) (np := 1) hf hw (k_X8_diagnosed l E _  a.toNatClampNeg  hG (hSa _ c1a.2)) ⟨gl_V q631 q632 q633 q5 q634, by decide +kernel⟩ ⟨rfl, rfl, Nat.le_of_ble_eq_true rfl, Nat.le_of_ble_eq_true rfl⟩ (by decide) (c_R E _) rfl rfl hl.1 rfl (Nat.le_of_ble_eq_true rfl) dX8_calibrate_20 ⟨Nat.zero_le _, Nat.zero_le _⟩) (fun H locs hw => ?_)
      refine lv_iconst (v := 1) hx hb dX8_calibrate_23 (by decide) ?_
      refine lv_iconst (v := 4) hx hb dX8_calibrate_24 (by decide) ?_
      refine c_iR hw (run_S (As := [.int (sp_X8_diagnosed (μ.1 8)  a.toNatClampNeg), .int 1, .int 4]) (rest := []) (np := 3) hf hw (kn_X8_in l E _  (sp_X8_diagnosed (μ.1 8)  a.toNatClampNeg) (1 : Int32) (4 : Int32)  ) ⟨gl_S q207 q208 q5 q209, by decide +kernel⟩ ⟨rfl, rfl, Nat.le_of_ble_eq_true rfl, Nat.le_of_ble_eq_true rfl⟩ rfl hl.1 rfl (Nat.le_of_ble_eq_true rfl) dX8_calibrate_25 ⟨Nat.zero_le _, Nat.zero_le _⟩) (fun H locs hw => ?_)
      refine lv_if_ne (tgt := 45) hx hb dX8_calibrate_28 (by decide) (fun c3 => ?_) (fun c3 => ?_)
      · replace c3 := (bz_n0 _).mp c3
        refine lv_ldc hx hb hf.2.2.2.1 (hf.2.2.2.2 _ q202) dX8_calibrate_45 ?_
        exact e_i hf hr hlocks hw rfl ((if_pos c1).trans ((if_pos c2).trans ((if_pos c3).trans rfl))) dX8_calibrate_47
      · replace c3 := (bz_0 _).mp c3
        refine lv_aload_n hx hb dX8_calibrate_31 rfl (lv_at hl 0 rfl) ?_
        refine lv_aload_n hx hb dX8_calibrate_32 rfl (lv_at hl 0 rfl) ?_
        refine lv_iload_n hx hb dX8_calibrate_33 rfl (lv_at hl 1 rfl) ?_
        refine fold_i (show a = nI (a.toNatClampNeg) from c1a.1) ?_
        refine lv_iconst (v := 0) hx hb dX8_calibrate_34 (by decide) ?_
        refine c_iR hw (run_V (As := [.int (nI (a.toNatClampNeg)), .int 0]) (rest := [.ref (E.1 (232))]) (np := 2) hf hw (kn_X8_of l E _  a.toNatClampNeg 0  (show a.toNatClampNeg < 6 from c1ab) (show 0 < 29 from (by decide))) ⟨gl_V q227 q228 q229 q5 q230, by decide +kernel⟩ ⟨rfl, rfl, Nat.le_of_ble_eq_true rfl, Nat.le_of_ble_eq_true rfl⟩ (by decide) (c_R E _) rfl rfl hl.1 rfl (Nat.le_of_ble_eq_true rfl) dX8_calibrate_35 ⟨Nat.zero_le _, Nat.zero_le _⟩) (fun H locs hw => ?_)
        have hb4 := (hI.2.2.2 _ c1ab).1.2
        refine fold_i (show μ.1 8 (85 + 29 * a.toNatClampNeg + 0) = nI (oN (μ.1 8) a.toNatClampNeg) from (hI.2.2.2 _ c1ab).1.1) ?_
        refine lv_iload_n hx hb dX8_calibrate_38 rfl (lv_at hl 2 rfl) ?_
        refine c_iR hw (run_V (As := [.int (nI (oN (μ.1 8) a.toNatClampNeg)), .int (b)]) (rest := []) (np := 2) hf hw (kn_X8_goes l E _  (oN (μ.1 8) a.toNatClampNeg) b  (show oN (μ.1 8) a.toNatClampNeg < 3 from (hI.2.2.2 _ c1ab).1.2) hI) ⟨gl_V q259 q260 q261 q5 q262, by decide +kernel⟩ ⟨rfl, rfl, Nat.le_of_ble_eq_true rfl, Nat.le_of_ble_eq_true rfl⟩ (by decide) (c_R E _) rfl rfl hl.1 rfl (Nat.le_of_ble_eq_true rfl) dX8_calibrate_39 ⟨Nat.zero_le _, Nat.zero_le _⟩) (fun H locs hw => ?_)
        refine lv_if_ne (tgt := 48) hx hb dX8_calibrate_42 (by decide) (fun c5 => ?_) (fun c5 => ?_)
        · replace c5 := (bz_n0 _).mp c5
          refine lv_aload_n hx hb dX8_calibrate_48 rfl (lv_at hl 0 rfl) ?_
          refine lv_iload_n hx hb dX8_calibrate_49 rfl (lv_at hl 1 rfl) ?_
          refine fold_i (show a = nI (a.toNatClampNeg) from c1a.1) ?_
          refine c_lR hw (run_V (As := [.int (nI (a.toNatClampNeg))]) (rest := []) (np := 1) hf hw (k_X8_without l E _  a.toNatClampNeg  hG (hSa _ c1a.2)) ⟨gl_V q635 q636 q637 q5 q638, by decide +kernel⟩ ⟨rfl, rfl, Nat.le_of_ble_eq_true rfl, Nat.le_of_ble_eq_true rfl⟩ (by decide) (c_R E _) rfl rfl hl.1 rfl (Nat.le_of_ble_eq_true rfl) dX8_calibrate_50 ⟨Nat.zero_le _, Nat.zero_le _⟩) (fun H locs hw => ?_)
          refine lv_ldc2 hx hb hf.2.2.2.1 (hf.2.2.2.2 _ q507) dX8_calibrate_53 ?_
          refine lv_lmul hx hb dX8_calibrate_56 ?_
          refine lv_aload_n hx hb dX8_calibrate_57 rfl (lv_at hl 0 rfl) ?_
          refine lv_aload_n hx hb dX8_calibrate_58 rfl (lv_at hl 0 rfl) ?_
          refine lv_iload_n hx hb dX8_calibrate_59 rfl (lv_at hl 1 rfl) ?_
          refine fold_i (show a = nI (a.toNatClampNeg) from c1a.1) ?_
          refine lv_iconst (v := 0) hx hb dX8_calibrate_60 (by decide) ?_
          refine c_iR hw (run_V (As := [.int (nI (a.toNatClampNeg)), .int 0]) (rest := [.ref (E.1 (232)), .long ((sp_X8_without (μ.1 8)  a.toNatClampNeg) * 1000000)]) (np := 2) hf hw (kn_X8_of l E _  a.toNatClampNeg 0  (show a.toNatClampNeg < 6 from c1ab) (show 0 < 29 from (by decide))) ⟨gl_V q227 q228 q229 q5 q230, by decide +kernel⟩ ⟨rfl, rfl, Nat.le_of_ble_eq_true rfl, Nat.le_of_ble_eq_true rfl⟩ (by decide) (c_R E _) rfl rfl hl.1 rfl (Nat.le_of_ble_eq_true rfl) dX8_calibrate_61 ⟨Nat.zero_le _, Nat.zero_le _⟩) (fun H locs hw => ?_)
          refine fold_i (show μ.1 8 (85 + 29 * a.toNatClampNeg + 0) = nI (oN (μ.1 8) a.toNatClampNeg) from (hI.2.2.2 _ c1ab).1.1) ?_
          refine lv_iload_n hx hb dX8_calibrate_64 rfl (lv_at hl 2 rfl) ?_
          refine c_iR hw (run_V (As := [.int (nI (oN (μ.1 8) a.toNatClampNeg)), .int (b)]) (rest := [.long ((sp_X8_without (μ.1 8)  a.toNatClampNeg) * 1000000)]) (np := 2) hf hw (k_X8_ratioAt l E _  (oN (μ.1 8) a.toNatClampNeg) b  (show oN (μ.1 8) a.toNatClampNeg < 3 from (hI.2.2.2 _ c1ab).1.2) hI (hG.2.1 _ (hI.2.2.2 _ c1ab).1.2).1 c5.1 c5.2.2) ⟨gl_V q271 q272 q273 q5 q274, by decide +kernel⟩ ⟨rfl, rfl, Nat.le_of_ble_eq_true rfl, Nat.le_of_ble_eq_true rfl⟩ (by decide) (c_R E _) rfl rfl hl.1 rfl (Nat.le_of_ble_eq_true rfl) dX8_calibrate_65 ⟨Nat.zero_le _, Nat.zero_le _⟩) (fun H locs hw => ?_)
          refine lv_i2l hx hb dX8_calibrate_68 rfl ?_
          refine lv_ldiv hx hb dX8_calibrate_69 (nzR (rat_bd (hG.2.1 _ (hI.2.2.2 _ c1ab).1.2).1 (hG.2.1 _ (hI.2.2.2 _ c1ab).1.2).2 c5.1 (Int32.le_iff_toInt_le.mp c5.2.1) c5.2.2).1) ?_
          refine lv_lstore_n (lv' := [(3, .long (((sp_X8_without (μ.1 8)  a.toNatClampNeg) * 1000000) / ((sp_X8_ratioAt (μ.1 8)  (oN (μ.1 8) a.toNatClampNeg) b).toInt64))), (0, .ref (E.1 (232))), (1, .int (a)), (2, .int (b))]) hx hb dX8_calibrate_70 rfl hl (by decide) rfl (fun ls hl => ?_)
          refine lv_lload_n hx hb dX8_calibrate_71 rfl (lv_at hl 0 rfl) ?_
          refine c_iR hw (run_S (As := [.long (((sp_X8_without (μ.1 8)  a.toNatClampNeg) * 1000000) / ((sp_X8_ratioAt (μ.1 8)  (oN (μ.1 8) a.toNatClampNeg) b).toInt64))]) (rest := []) (np := 1) hf hw (kn_X8_isBase l E _  (((sp_X8_without (μ.1 8)  a.toNatClampNeg) * 1000000) / ((sp_X8_ratioAt (μ.1 8)  (oN (μ.1 8) a.toNatClampNeg) b).toInt64))  ) ⟨gl_S q508 q509 q5 q510, by decide +kernel⟩ ⟨rfl, rfl, Nat.le_of_ble_eq_true rfl, Nat.le_of_ble_eq_true rfl⟩ rfl hl.1 rfl (Nat.le_of_ble_eq_true rfl) dX8_calibrate_72 ⟨Nat.zero_le _, Nat.zero_le _⟩) (fun H locs hw => ?_)
          refine lv_if_ne (tgt := 81) hx hb dX8_calibrate_75 (by decide) (fun c6 => ?_) (fun c6 => ?_)
          · replace c6 := (bz_n0 _).mp c6
            refine lv_aload_n hx hb dX8_calibrate_81 rfl (lv_at hl 1 rfl) ?_
            refine c_v hw (run_V (As := []) (rest := []) (np := 0) hf hw (kn_X8_keeps l E _    ) ⟨gl_V q146 q147 q148 q5 q149, by decide +kernel⟩ ⟨rfl, rfl, Nat.le_of_ble_eq_true rfl, Nat.le_of_ble_eq_true rfl⟩ (by decide) (c_R E _) rfl rfl hl.1 rfl (Nat.le_of_ble_eq_true rfl) dX8_calibrate_82 ⟨Nat.zero_le _, Nat.zero_le _⟩) (fun H locs hw => ?_)
            refine lv_aload_n hx hb dX8_calibrate_85 rfl (lv_at hl 1 rfl) ?_
            refine lv_iload_n hx hb dX8_calibrate_86 rfl (lv_at hl 2 rfl) ?_
            refine fold_i (show a = nI (a.toNatClampNeg) from c1a.1) ?_
            refine lv_iconst (v := 3) hx hb dX8_calibrate_87 (by decide) ?_
            refine lv_lload_n hx hb dX8_calibrate_88 rfl (lv_at hl 0 rfl) ?_
            refine lv_l2i hx hb dX8_calibrate_89 rfl ?_
            refine c_v hw (run_V (As := [.int (nI (a.toNatClampNeg)), .int 3, .int ((((sp_X8_without (μ.1 8)  a.toNatClampNeg) * 1000000) / ((sp_X8_ratioAt (μ.1 8)  (oN (μ.1 8) a.toNatClampNeg) b).toInt64)).toInt32)]) (rest := []) (np := 3) hf hw (kn_X8_put l E _  a.toNatClampNeg 3 ((((sp_X8_without (μ.1 8)  a.toNatClampNeg) * 1000000) / ((sp_X8_ratioAt (μ.1 8)  (oN (μ.1 8) a.toNatClampNeg) b).toInt64)).toInt32)  (show a.toNatClampNeg < 6 from c1ab) (show 3 < 29 from (by decide))) ⟨gl_V q335 q336 q337 q5 q338, by decide +kernel⟩ ⟨rfl, rfl, Nat.le_of_ble_eq_true rfl, Nat.le_of_ble_eq_true rfl⟩ (by decide) (c_R E _) rfl rfl hl.1 rfl (Nat.le_of_ble_eq_true rfl) dX8_calibrate_90 ⟨Nat.zero_le _, Nat.zero_le _⟩) (fun H locs hw => ?_)
            refine lv_aload_n hx hb dX8_calibrate_93 rfl (lv_at hl 1 rfl) ?_
            refine lv_lload_n hx hb dX8_calibrate_94 rfl (lv_at hl 0 rfl) ?_
            refine lv_l2i hx hb dX8_calibrate_95 rfl ?_
            refine c_i hw (run_V (As := [.int ((((sp_X8_without (μ.1 8)  a.toNatClampNeg) * 1000000) / ((sp_X8_ratioAt (μ.1 8)  (oN (μ.1 8) a.toNatClampNeg) b).toInt64)).toInt32)]) (rest := []) (np := 1) hf hw (k_X8_acted l E _  ((((sp_X8_without (μ.1 8)  a.toNatClampNeg) * 1000000) / ((sp_X8_ratioAt (μ.1 8)  (oN (μ.1 8) a.toNatClampNeg) b).toInt64)).toInt32)  (s7_ni (x := μ.1 7 0) (s7_pM (by decide) (s7_pC (by decide) (rfl : S7 (μ.1 7 0) μ))) hst)) ⟨gl_V q150 q151 q152 q5 q153, by decide +kernel⟩ ⟨rfl, rfl, Nat.le_of_ble_eq_true rfl, Nat.le_of_ble_eq_true rfl⟩ (by decide) (c_R E _) rfl rfl hl.1 rfl (Nat.le_of_ble_eq_true rfl) dX8_calibrate_96 ⟨Nat.zero_le _, Nat.zero_le _⟩) (fun H locs hw => ?_)
            exact e_i hf hr hlocks hw rfl ((if_pos c1).trans ((if_pos c2).trans ((if_neg c3).trans ((if_pos c5).trans ((if_pos c6).trans rfl))))) dX8_calibrate_99
          · replace c6 := (bz_0 _).mp c6
            refine lv_ldc hx hb hf.2.2.2.1 (hf.2.2.2.2 _ q202) dX8_calibrate_78 ?_
            exact e_i hf hr hlocks hw rfl ((if_pos c1).trans ((if_pos c2).trans ((if_neg c3).trans ((if_pos c5).trans ((if_neg c6).trans rfl))))) dX8_calibrate_80
        · replace c5 := (bz_0 _).mp c5
          refine lv_ldc hx hb hf.2.2.2.1 (hf.2.2.2.2 _ q202) dX8_calibrate_45 ?_
          exact e_i hf hr hlocks hw rfl ((if_pos c1).trans ((if_pos c2).trans ((if_neg c3).trans ((if_neg c5).trans rfl)))) dX8_calibrate_47
    · replace c2 := (bz_0 _).mp c2
      refine lv_ldc hx hb hf.2.2.2.1 (hf.2.2.2.2 _ q154) dX8_calibrate_15 ?_
      exact e_i hf hr hlocks hw rfl ((if_pos c1).trans ((if_neg c2).trans rfl)) dX8_calibrate_17
def sp_X8_alarms (μ : Mu)  (n : Nat) (w : Int32) : Mu :=
  if ((μ.1 8 (85 + 29 * n + 17)) : Int32) = 0 then
    if (w : Int32) < (μ.1 8 (85 + 29 * n + 14)) then
      pM μ 8 (85 + 29 * n + 17) (1 : Int32)
    else
      if (w : Int32) ≤ (μ.1 8 (85 + 29 * n + 15)) then
        pM μ 8 (85 + 29 * n + 17) (0 : Int32)
      else
        pM μ 8 (85 + 29 * n + 17) (1 : Int32)
  else
    if (w : Int32) < (μ.1 8 (85 + 29 * n + 14)) + (μ.1 8 (85 + 29 * n + 16)) then
      pM μ 8 (85 + 29 * n + 17) (1 : Int32)
    else
      if ((μ.1 8 (85 + 29 * n + 15)) - (μ.1 8 (85 + 29 * n + 16)) : Int32) < w then
        pM μ 8 (85 + 29 * n + 17) (1 : Int32)
      else
        pM μ 8 (85 + 29 * n + 17) (0 : Int32)
set_option maxHeartbeats 4000000 in
set_option maxRecDepth 100000 in
theorem k_X8_alarms (l : Launch) (E : En) (μ : Mu)  (n : Nat) (w : Int32) (hn : n < 6) : MtV l yX8_alarms cX8_alarms 6 ({ frames := 1, cells := 0, slots := 0, locals := 23 }) [.ref (E.1 (232)), .int (nI n), .int (w)] E μ (sp_X8_alarms μ n w) := by
  refine mt_of (by decide +kernel) (Nat.le_of_ble_eq_true rfl) ?_
  intro p e s m args below meth c ls hf hr hlocks hl hw
  have hx := hf.1
  have hb := hf.2.1
  have hl : lv_has ls 6 [(0, .ref (E.1 (232))), (1, .int (nI n)), (2, .int (w))] := hl
  refine lv_aload_n hx hb dX8_alarms_0 rfl (lv_at hl 0 rfl) ?_
  refine lv_iload_n hx hb dX8_alarms_1 rfl (lv_at hl 1 rfl) ?_
  refine lv_bipush (v := 14) hx hb dX8_alarms_2 (by decide) ?_
  refine c_iR hw (run_V (As := [.int (nI n), .int 14]) (rest := []) (np := 2) hf hw (kn_X8_of l E _  n 14  (show n < 6 from hn) (show 14 < 29 from (by decide))) ⟨gl_V q227 q228 q229 q5 q230, by decide +kernel⟩ ⟨rfl, rfl, Nat.le_of_ble_eq_true rfl, Nat.le_of_ble_eq_true rfl⟩ (by decide) (c_R E _) rfl rfl hl.1 rfl (Nat.le_of_ble_eq_true rfl) dX8_alarms_4 ⟨Nat.zero_le _, Nat.zero_le _⟩) (fun H locs hw => ?_)
  refine lv_istore_n (lv' := [(3, .int ((μ.1 8 (85 + 29 * n + 14)))), (0, .ref (E.1 (232))), (1, .int (nI n)), (2, .int (w))]) hx hb dX8_alarms_7 rfl hl (by decide) rfl (fun ls hl => ?_)
  refine lv_aload_n hx hb dX8_alarms_8 rfl (lv_at hl 1 rfl) ?_
  refine lv_iload_n hx hb dX8_alarms_9 rfl (lv_at hl 2 rfl) ?_
  refine lv_bipush (v := 15) hx hb dX8_alarms_10 (by decide) ?_
  refine c_iR hw (run_V (As := [.int (nI n), .int 15]) (rest := []) (np := 2) hf hw (kn_X8_of l E _  n 15  (show n < 6 from hn) (show 15 < 29 from (by decide))) ⟨gl_V q227 q228 q229 q5 q230, by decide +kernel⟩ ⟨rfl, rfl, Nat.le_of_ble_eq_true rfl, Nat.le_of_ble_eq_true rfl⟩ (by decide) (c_R E _) rfl rfl hl.1 rfl (Nat.le_of_ble_eq_true rfl) dX8_alarms_12 ⟨Nat.zero_le _, Nat.zero_le _⟩) (fun H locs hw => ?_)
  refine lv_istore (lv' := [(4, .int ((μ.1 8 (85 + 29 * n + 15)))), (3, .int ((μ.1 8 (85 + 29 * n + 14)))), (0, .ref (E.1 (232))), (1, .int (nI n)), (2, .int (w))]) hx hb dX8_alarms_15 hl (by decide) rfl (fun ls hl => ?_)
  refine lv_aload_n hx hb dX8_alarms_17 rfl (lv_at hl 2 rfl) ?_
  refine lv_iload_n hx hb dX8_alarms_18 rfl (lv_at hl 3 rfl) ?_
  refine lv_bipush (v := 16) hx hb dX8_alarms_19 (by decide) ?_
  refine c_iR hw (run_V (As := [.int (nI n), .int 16]) (rest := []) (np := 2) hf hw (kn_X8_of l E _  n 16  (show n < 6 from hn) (show 16 < 29 from (by decide))) ⟨gl_V q227 q228 q229 q5 q230, by decide +kernel⟩ ⟨rfl, rfl, Nat.le_of_ble_eq_true rfl, Nat.le_of_ble_eq_true rfl⟩ (by decide) (c_R E _) rfl rfl hl.1 rfl (Nat.le_of_ble_eq_true rfl) dX8_alarms_21 ⟨Nat.zero_le _, Nat.zero_le _⟩) (fun H locs hw => ?_)
  refine lv_istore (lv' := [(5, .int ((μ.1 8 (85 + 29 * n + 16)))), (4, .int ((μ.1 8 (85 + 29 * n + 15)))), (3, .int ((μ.1 8 (85 + 29 * n + 14)))), (0, .ref (E.1 (232))), (1, .int (nI n)), (2, .int (w))]) hx hb dX8_alarms_24 hl (by decide) rfl (fun ls hl => ?_)
  refine lv_aload_n hx hb dX8_alarms_26 rfl (lv_at hl 3 rfl) ?_
  refine lv_iload_n hx hb dX8_alarms_27 rfl (lv_at hl 4 rfl) ?_
  refine lv_bipush (v := 17) hx hb dX8_alarms_28 (by decide) ?_
  refine c_iR hw (run_V (As := [.int (nI n), .int 17]) (rest := []) (np := 2) hf hw (kn_X8_of l E _  n 17  (show n < 6 from hn) (show 17 < 29 from (by decide))) ⟨gl_V q227 q228 q229 q5 q230, by decide +kernel⟩ ⟨rfl, rfl, Nat.le_of_ble_eq_true rfl, Nat.le_of_ble_eq_true rfl⟩ (by decide) (c_R E _) rfl rfl hl.1 rfl (Nat.le_of_ble_eq_true rfl) dX8_alarms_30 ⟨Nat.zero_le _, Nat.zero_le _⟩) (fun H locs hw => ?_)
  refine lv_if_ne (tgt := 62) hx hb dX8_alarms_33 (by decide) (fun c1 => ?_) (fun c1 => ?_)
  · refine lv_aload_n hx hb dX8_alarms_62 rfl (lv_at hl 3 rfl) ?_
    refine lv_iload_n hx hb dX8_alarms_63 rfl (lv_at hl 4 rfl) ?_
    refine lv_bipush (v := 17) hx hb dX8_alarms_64 (by decide) ?_
    refine lv_iload_n hx hb dX8_alarms_66 rfl (lv_at hl 5 rfl) ?_
    refine lv_iload_n hx hb dX8_alarms_67 rfl (lv_at hl 2 rfl) ?_
    refine lv_iload hx hb dX8_alarms_68 (lv_at hl 0 rfl) ?_
    refine lv_iadd hx hb dX8_alarms_70 ?_
    refine lv_icmp_lt (tgt := 87) hx hb dX8_alarms_71 (by decide) (fun c2 => ?_) (fun c2 => ?_)
    · refine lv_iconst (v := 1) hx hb dX8_alarms_87 (by decide) ?_
      refine c_v hw (run_V (As := [.int (nI n), .int 17, .int 1]) (rest := []) (np := 3) hf hw (kn_X8_put l E _  n 17 (1 : Int32)  (show n < 6 from hn) (show 17 < 29 from (by decide))) ⟨gl_V q335 q336 q337 q5 q338, by decide +kernel⟩ ⟨rfl, rfl, Nat.le_of_ble_eq_true rfl, Nat.le_of_ble_eq_true rfl⟩ (by decide) (c_R E _) rfl rfl hl.1 rfl (Nat.le_of_ble_eq_true rfl) dX8_alarms_88 ⟨Nat.zero_le _, Nat.zero_le _⟩) (fun H locs hw => ?_)
      exact e_v hf hr hlocks hw ((if_neg c1).trans ((if_pos c2).trans rfl)) dX8_alarms_91
    · refine lv_iload_n hx hb dX8_alarms_74 rfl (lv_at hl 5 rfl) ?_
      refine lv_iload hx hb dX8_alarms_75 (lv_at hl 1 rfl) ?_
      refine lv_iload hx hb dX8_alarms_77 (lv_at hl 0 rfl) ?_
      refine lv_isub hx hb dX8_alarms_79 ?_
      refine lv_icmp_gt (tgt := 87) hx hb dX8_alarms_80 (by decide) (fun c3 => ?_) (fun c3 => ?_)
      · refine lv_iconst (v := 1) hx hb dX8_alarms_87 (by decide) ?_
        refine c_v hw (run_V (As := [.int (nI n), .int 17, .int 1]) (rest := []) (np := 3) hf hw (kn_X8_put l E _  n 17 (1 : Int32)  (show n < 6 from hn) (show 17 < 29 from (by decide))) ⟨gl_V q335 q336 q337 q5 q338, by decide +kernel⟩ ⟨rfl, rfl, Nat.le_of_ble_eq_true rfl, Nat.le_of_ble_eq_true rfl⟩ (by decide) (c_R E _) rfl rfl hl.1 rfl (Nat.le_of_ble_eq_true rfl) dX8_alarms_88 ⟨Nat.zero_le _, Nat.zero_le _⟩) (fun H locs hw => ?_)
        exact e_v hf hr hlocks hw ((if_neg c1).trans ((if_neg c2).trans ((if_pos c3).trans rfl))) dX8_alarms_91
      · refine lv_iconst (v := 0) hx hb dX8_alarms_83 (by decide) ?_
        refine lv_goto (tgt := 88) hx hb dX8_alarms_84 (by decide) ?_
        refine c_v hw (run_V (As := [.int (nI n), .int 17, .int 0]) (rest := []) (np := 3) hf hw (kn_X8_put l E _  n 17 (0 : Int32)  (show n < 6 from hn) (show 17 < 29 from (by decide))) ⟨gl_V q335 q336 q337 q5 q338, by decide +kernel⟩ ⟨rfl, rfl, Nat.le_of_ble_eq_true rfl, Nat.le_of_ble_eq_true rfl⟩ (by decide) (c_R E _) rfl rfl hl.1 rfl (Nat.le_of_ble_eq_true rfl) dX8_alarms_88 ⟨Nat.zero_le _, Nat.zero_le _⟩) (fun H locs hw => ?_)
        exact e_v hf hr hlocks hw ((if_neg c1).trans ((if_neg c2).trans ((if_neg c3).trans rfl))) dX8_alarms_91
  · refine lv_aload_n hx hb dX8_alarms_36 rfl (lv_at hl 3 rfl) ?_
    refine lv_iload_n hx hb dX8_alarms_37 rfl (lv_at hl 4 rfl) ?_
    refine lv_bipush (v := 17) hx hb dX8_alarms_38 (by decide) ?_
    refine lv_iload_n hx hb dX8_alarms_40 rfl (lv_at hl 5 rfl) ?_
    refine lv_iload_n hx hb dX8_alarms_41 rfl (lv_at hl 2 rfl) ?_
    refine lv_icmp_lt (tgt := 51) hx hb dX8_alarms_42 (by decide) (fun c4 => ?_) (fun c4 => ?_)
    · refine lv_iconst (v := 1) hx hb dX8_alarms_51 (by decide) ?_
      refine lv_goto (tgt := 56) hx hb dX8_alarms_52 (by decide) ?_
      refine c_v hw (run_V (As := [.int (nI n), .int 17, .int 1]) (rest := []) (np := 3) hf hw (kn_X8_put l E _  n 17 (1 : Int32)  (show n < 6 from hn) (show 17 < 29 from (by decide))) ⟨gl_V q335 q336 q337 q5 q338, by decide +kernel⟩ ⟨rfl, rfl, Nat.le_of_ble_eq_true rfl, Nat.le_of_ble_eq_true rfl⟩ (by decide) (c_R E _) rfl rfl hl.1 rfl (Nat.le_of_ble_eq_true rfl) dX8_alarms_56 ⟨Nat.zero_le _, Nat.zero_le _⟩) (fun H locs hw => ?_)
      refine lv_goto (tgt := 91) hx hb dX8_alarms_59 (by decide) ?_
      exact e_v hf hr hlocks hw ((if_pos c1).trans ((if_pos c4).trans rfl)) dX8_alarms_91
    · refine lv_iload_n hx hb dX8_alarms_45 rfl (lv_at hl 5 rfl) ?_
      refine lv_iload hx hb dX8_alarms_46 (lv_at hl 1 rfl) ?_
      refine lv_icmp_le (tgt := 55) hx hb dX8_alarms_48 (by decide) (fun c5 => ?_) (fun c5 => ?_)
      · refine lv_iconst (v := 0) hx hb dX8_alarms_55 (by decide) ?_
        refine c_v hw (run_V (As := [.int (nI n), .int 17, .int 0]) (rest := []) (np := 3) hf hw (kn_X8_put l E _  n 17 (0 : Int32)  (show n < 6 from hn) (show 17 < 29 from (by decide))) ⟨gl_V q335 q336 q337 q5 q338, by decide +kernel⟩ ⟨rfl, rfl, Nat.le_of_ble_eq_true rfl, Nat.le_of_ble_eq_true rfl⟩ (by decide) (c_R E _) rfl rfl hl.1 rfl (Nat.le_of_ble_eq_true rfl) dX8_alarms_56 ⟨Nat.zero_le _, Nat.zero_le _⟩) (fun H locs hw => ?_)
        refine lv_goto (tgt := 91) hx hb dX8_alarms_59 (by decide) ?_
        exact e_v hf hr hlocks hw ((if_pos c1).trans ((if_neg c4).trans ((if_pos c5).trans rfl))) dX8_alarms_91
      · refine lv_iconst (v := 1) hx hb dX8_alarms_51 (by decide) ?_
        refine lv_goto (tgt := 56) hx hb dX8_alarms_52 (by decide) ?_
        refine c_v hw (run_V (As := [.int (nI n), .int 17, .int 1]) (rest := []) (np := 3) hf hw (kn_X8_put l E _  n 17 (1 : Int32)  (show n < 6 from hn) (show 17 < 29 from (by decide))) ⟨gl_V q335 q336 q337 q5 q338, by decide +kernel⟩ ⟨rfl, rfl, Nat.le_of_ble_eq_true rfl, Nat.le_of_ble_eq_true rfl⟩ (by decide) (c_R E _) rfl rfl hl.1 rfl (Nat.le_of_ble_eq_true rfl) dX8_alarms_56 ⟨Nat.zero_le _, Nat.zero_le _⟩) (fun H locs hw => ?_)
        refine lv_goto (tgt := 91) hx hb dX8_alarms_59 (by decide) ?_
        exact e_v hf hr hlocks hw ((if_pos c1).trans ((if_neg c4).trans ((if_neg c5).trans rfl))) dX8_alarms_91
theorem s7_X8_alarms {x : Int32} (μ : Mu)  (n : Nat) (w : Int32)  (hh : S7 x μ) : S7 x ((sp_X8_alarms μ n w)) := by
  unfold sp_X8_alarms
  exact (s7_iteM (s7_iteM (s7_pM (by decide) hh) (s7_iteM (s7_pM (by decide) hh) (s7_pM (by decide) hh))) (s7_iteM (s7_pM (by decide) hh) (s7_iteM (s7_pM (by decide) hh) (s7_pM (by decide) hh))))
def sp_X8_reads (μ : Mu)  (a : Int32) : Int32 × Mu :=
  if 0 ≤ a ∧ a ≤ (μ.1 8 1) - 1 then
    if (sp_X8_diagnosed (μ.1 8)  a.toNatClampNeg : Int32) = 0 then
      if (nI ((μ.1 8 (85 + 29 * a.toNatClampNeg + 19)).toNatClampNeg) : Int32) = 9 then
        (sp_X8_degrees (μ.1 8)  a.toNatClampNeg, sp_X8_alarms (pM (pM (pM (pM (pM (pM (pM (pM (pM (pM (pM (pM μ 8 (85 + 29 * a.toNatClampNeg + 20) (μ.1 8 (85 + 29 * a.toNatClampNeg + 21))) 8 (85 + 29 * a.toNatClampNeg + 21) (μ.1 8 (85 + 29 * a.toNatClampNeg + 22))) 8 (85 + 29 * a.toNatClampNeg + 22) (μ.1 8 (85 + 29 * a.toNatClampNeg + 23))) 8 (85 + 29 * a.toNatClampNeg + 23) (μ.1 8 (85 + 29 * a.toNatClampNeg + 24))) 8 (85 + 29 * a.toNatClampNeg + 24) (μ.1 8 (85 + 29 * a.toNatClampNeg + 25))) 8 (85 + 29 * a.toNatClampNeg + 25) (μ.1 8 (85 + 29 * a.toNatClampNeg + 26))) 8 (85 + 29 * a.toNatClampNeg + 26) (μ.1 8 (85 + 29 * a.toNatClampNeg + 27))) 8 (85 + 29 * a.toNatClampNeg + 27) (μ.1 8 (85 + 29 * a.toNatClampNeg + 28))) 8 (85 + 29 * a.toNatClampNeg + 19) (8 : Int32)) 8 (85 + 29 * a.toNatClampNeg + 28) (sp_X8_degrees (μ.1 8)  a.toNatClampNeg)) 8 (85 + 29 * a.toNatClampNeg + 19) (9 : Int32)) 8 (85 + 29 * a.toNatClampNeg + 18) ((μ.1 8 (85 + 29 * a.toNatClampNeg + 18)) + 1))  a.toNatClampNeg (sp_X8_degrees (μ.1 8)  a.toNatClampNeg))
      else
        (sp_X8_degrees (μ.1 8)  a.toNatClampNeg, sp_X8_alarms (pM (pM (pM μ 8 (85 + 29 * a.toNatClampNeg + (20 + ((μ.1 8 (85 + 29 * a.toNatClampNeg + 19)).toNatClampNeg))) (sp_X8_degrees (μ.1 8)  a.toNatClampNeg)) 8 (85 + 29 * a.toNatClampNeg + 19) (nI ((μ.1 8 (85 + 29 * a.toNatClampNeg + 19)).toNatClampNeg + 1))) 8 (85 + 29 * a.toNatClampNeg + 18) ((μ.1 8 (85 + 29 * a.toNatClampNeg + 18)) + 1))  a.toNatClampNeg (sp_X8_degrees (μ.1 8)  a.toNatClampNeg))
    else
      ((-2000000002), μ)
  else
    ((-2000000001), μ)
set_option maxHeartbeats 4000000 in
set_option maxRecDepth 100000 in
theorem k_X8_reads (l : Launch) (E : En) (μ : Mu)  (a : Int32) (hG : RG (μ.1 8)) (hSa : ∀ n, n < (μ.1 8 1).toNatClampNeg → RS (μ.1 8) n) : MtI l yX8_reads cX8_reads 4 .int ({ frames := 11, cells := 0, slots := 0, locals := 271 }) [.ref (E.1 (232)), .int (a)] E μ (sp_X8_reads μ a) := by
  refine mt_of (by decide +kernel) (Nat.le_of_ble_eq_true rfl) ?_
  intro p e s m args below meth c ls hf hr hlocks hl hw
  have hx := hf.1
  have hb := hf.2.1
  have hl : lv_has ls 4 [(0, .ref (E.1 (232))), (1, .int (a))] := hl
  have hI := hG.1
  refine lv_aload_n hx hb dX8_reads_0 rfl (lv_at hl 0 rfl) ?_
  refine lv_iload_n hx hb dX8_reads_1 rfl (lv_at hl 1 rfl) ?_
  refine c_iR hw (run_V (As := [.int (a)]) (rest := []) (np := 1) hf hw (kn_X8_isSensor l E _  a  ) ⟨gl_V q370 q371 q372 q5 q373, by decide +kernel⟩ ⟨rfl, rfl, Nat.le_of_ble_eq_true rfl, Nat.le_of_ble_eq_true rfl⟩ (by decide) (c_R E _) rfl rfl hl.1 rfl (Nat.le_of_ble_eq_true rfl) dX8_reads_2 ⟨Nat.zero_le _, Nat.zero_le _⟩) (fun H locs hw => ?_)
  refine lv_if_ne (tgt := 11) hx hb dX8_reads_5 (by decide) (fun c1 => ?_) (fun c1 => ?_)
  · replace c1 := (bz_n0 _).mp c1
    have c1a := (ni_of hI.2.1 (by decide) c1)
    have c1ab : a.toNatClampNeg < 6 := Nat.lt_of_lt_of_le c1a.2 (Nat.le_of_lt_succ hI.2.1.2)
    refine lv_aload_n hx hb dX8_reads_11 rfl (lv_at hl 0 rfl) ?_
    refine lv_iload_n hx hb dX8_reads_12 rfl (lv_at hl 1 rfl) ?_
    refine fold_i (show a = nI (a.toNatClampNeg) from c1a.1) ?_
    refine c_iR hw (run_V (As := [.int (nI (a.toNatClampNeg))]) (rest := []) (np := 1) hf hw (k_X8_diagnosed l E _  a.toNatClampNeg  hG (hSa _ c1a.2)) ⟨gl_V q631 q632 q633 q5 q634, by decide +kernel⟩ ⟨rfl, rfl, Nat.le_of_ble_eq_true rfl, Nat.le_of_ble_eq_true rfl⟩ (by decide) (c_R E _) rfl rfl hl.1 rfl (Nat.le_of_ble_eq_true rfl) dX8_reads_13 ⟨Nat.zero_le _, Nat.zero_le _⟩) (fun H locs hw => ?_)
    refine lv_if_eq (tgt := 22) hx hb dX8_reads_16 (by decide) (fun c2 => ?_) (fun c2 => ?_)
    · refine lv_aload_n hx hb dX8_reads_22 rfl (lv_at hl 0 rfl) ?_
      refine lv_iload_n hx hb dX8_reads_23 rfl (lv_at hl 1 rfl) ?_
      refine fold_i (show a = nI (a.toNatClampNeg) from c1a.1) ?_
      refine c_iR hw (run_V (As := [.int (nI (a.toNatClampNeg))]) (rest := []) (np := 1) hf hw (k_X8_degrees l E _  a.toNatClampNeg  hG (hSa _ c1a.2)) ⟨gl_V q679 q680 q681 q5 q682, by decide +kernel⟩ ⟨rfl, rfl, Nat.le_of_ble_eq_true rfl, Nat.le_of_ble_eq_true rfl⟩ (by decide) (c_R E _) rfl rfl hl.1 rfl (Nat.le_of_ble_eq_true rfl) dX8_reads_24 ⟨Nat.zero_le _, Nat.zero_le _⟩) (fun H locs hw => ?_)
      refine lv_istore_n (lv' := [(2, .int (sp_X8_degrees (μ.1 8)  a.toNatClampNeg)), (0, .ref (E.1 (232))), (1, .int (a))]) hx hb dX8_reads_27 rfl hl (by decide) rfl (fun ls hl => ?_)
      refine lv_aload_n hx hb dX8_reads_28 rfl (lv_at hl 1 rfl) ?_
      refine lv_iload_n hx hb dX8_reads_29 rfl (lv_at hl 2 rfl) ?_
      refine fold_i (show a = nI (a.toNatClampNeg) from c1a.1) ?_
      refine lv_bipush (v := 19) hx hb dX8_reads_30 (by decide) ?_
      refine c_iR hw (run_V (As := [.int (nI (a.toNatClampNeg)), .int 19]) (rest := []) (np := 2) hf hw (kn_X8_of l E _  a.toNatClampNeg 19  (show a.toNatClampNeg < 6 from c1ab) (show 19 < 29 from (by decide))) ⟨gl_V q227 q228 q229 q5 q230, by decide +kernel⟩ ⟨rfl, rfl, Nat.le_of_ble_eq_true rfl, Nat.le_of_ble_eq_true rfl⟩ (by decide) (c_R E _) rfl rfl hl.1 rfl (Nat.le_of_ble_eq_true rfl) dX8_reads_32 ⟨Nat.zero_le _, Nat.zero_le _⟩) (fun H locs hw => ?_)
      have hb3 := ((hI).2.2.2 _ c1ab).2.1.2
      refine fold_i (show μ.1 8 (85 + 29 * a.toNatClampNeg + 19) = nI ((μ.1 8 (85 + 29 * a.toNatClampNeg + 19)).toNatClampNeg) from ((hI).2.2.2 _ c1ab).2.1.1) ?_
      refine lv_bipush (v := 9) hx hb dX8_reads_35 (by decide) ?_
      refine lv_icmp_ne (tgt := 83) hx hb dX8_reads_37 (by decide) (fun c4 => ?_) (fun c4 => ?_)
      · have c4n : ¬ ((μ.1 8 (85 + 29 * a.toNatClampNeg + 19)).toNatClampNeg) = 9 := by have q := (nI_eq (a := ((μ.1 8 (85 + 29 * a.toNatClampNeg + 19)).toNatClampNeg)) (b := 9) (by omega) (by omega)); first | exact q.mp c4 | exact fun z => c4 (q.mpr z)
        refine lv_aload_n hx hb dX8_reads_83 rfl (lv_at hl 1 rfl) ?_
        refine lv_iload_n hx hb dX8_reads_84 rfl (lv_at hl 2 rfl) ?_
        refine fold_i (show a = nI (a.toNatClampNeg) from c1a.1) ?_
        refine lv_bipush (v := 20) hx hb dX8_reads_85 (by decide) ?_
        refine lv_aload_n hx hb dX8_reads_87 rfl (lv_at hl 1 rfl) ?_
        refine lv_iload_n hx hb dX8_reads_88 rfl (lv_at hl 2 rfl) ?_
        refine fold_i (show a = nI (a.toNatClampNeg) from c1a.1) ?_
        refine lv_bipush (v := 19) hx hb dX8_reads_89 (by decide) ?_
        refine c_iR hw (run_V (As := [.int (nI (a.toNatClampNeg)), .int 19]) (rest := [.int 20, .int (nI (a.toNatClampNeg)), .ref (E.1 (232))]) (np := 2) hf hw (kn_X8_of l E _  a.toNatClampNeg 19  (show a.toNatClampNeg < 6 from c1ab) (show 19 < 29 from (by decide))) ⟨gl_V q227 q228 q229 q5 q230, by decide +kernel⟩ ⟨rfl, rfl, Nat.le_of_ble_eq_true rfl, Nat.le_of_ble_eq_true rfl⟩ (by decide) (c_R E _) rfl rfl hl.1 rfl (Nat.le_of_ble_eq_true rfl) dX8_reads_91 ⟨Nat.zero_le _, Nat.zero_le _⟩) (fun H locs hw => ?_)
        refine fold_i (show μ.1 8 (85 + 29 * a.toNatClampNeg + 19) = nI ((μ.1 8 (85 + 29 * a.toNatClampNeg + 19)).toNatClampNeg) from ((hI).2.2.2 _ c1ab).2.1.1) ?_
        refine lv_iadd hx hb dX8_reads_94 ?_
        refine fold_i (show (20 : Int32) + nI ((μ.1 8 (85 + 29 * a.toNatClampNeg + 19)).toNatClampNeg) = nI (20 + ((μ.1 8 (85 + 29 * a.toNatClampNeg + 19)).toNatClampNeg)) from nI_add (20) ((μ.1 8 (85 + 29 * a.toNatClampNeg + 19)).toNatClampNeg)) ?_
        refine lv_iload_n hx hb dX8_reads_95 rfl (lv_at hl 0 rfl) ?_
        refine c_v hw (run_V (As := [.int (nI (a.toNatClampNeg)), .int (nI (20 + ((μ.1 8 (85 + 29 * a.toNatClampNeg + 19)).toNatClampNeg))), .int (sp_X8_degrees (μ.1 8)  a.toNatClampNeg)]) (rest := []) (np := 3) hf hw (kn_X8_put l E _  a.toNatClampNeg (20 + ((μ.1 8 (85 + 29 * a.toNatClampNeg + 19)).toNatClampNeg)) (sp_X8_degrees (μ.1 8)  a.toNatClampNeg)  (show a.toNatClampNeg < 6 from c1ab) (show 20 + ((μ.1 8 (85 + 29 * a.toNatClampNeg + 19)).toNatClampNeg) < 29 from (by omega))) ⟨gl_V q335 q336 q337 q5 q338, by decide +kernel⟩ ⟨rfl, rfl, Nat.le_of_ble_eq_true rfl, Nat.le_of_ble_eq_true rfl⟩ (by decide) (c_R E _) rfl rfl hl.1 rfl (Nat.le_of_ble_eq_true rfl) dX8_reads_96 ⟨Nat.zero_le _, Nat.zero_le _⟩) (fun H locs hw => ?_)
        refine lv_aload_n hx hb dX8_reads_99 rfl (lv_at hl 1 rfl) ?_
        refine lv_iload_n hx hb dX8_reads_100 rfl (lv_at hl 2 rfl) ?_
        refine fold_i (show a = nI (a.toNatClampNeg) from c1a.1) ?_
        refine lv_bipush (v := 19) hx hb dX8_reads_101 (by decide) ?_
        refine lv_aload_n hx hb dX8_reads_103 rfl (lv_at hl 1 rfl) ?_
        refine lv_iload_n hx hb dX8_reads_104 rfl (lv_at hl 2 rfl) ?_
        refine fold_i (show a = nI (a.toNatClampNeg) from c1a.1) ?_
        refine lv_bipush (v := 19) hx hb dX8_reads_105 (by decide) ?_
        refine c_iR hw (run_V (As := [.int (nI (a.toNatClampNeg)), .int 19]) (rest := [.int 19, .int (nI (a.toNatClampNeg)), .ref (E.1 (232))]) (np := 2) hf hw (kn_X8_of l E _  a.toNatClampNeg 19  (show a.toNatClampNeg < 6 from c1ab) (show 19 < 29 from (by decide))) ⟨gl_V q227 q228 q229 q5 q230, by decide +kernel⟩ ⟨rfl, rfl, Nat.le_of_ble_eq_true rfl, Nat.le_of_ble_eq_true rfl⟩ (by decide) (c_R E _) rfl rfl hl.1 rfl (Nat.le_of_ble_eq_true rfl) dX8_reads_107 ⟨Nat.zero_le _, Nat.zero_le _⟩) (fun H locs hw => ?_)
        refine fold_i (y := (μ.1 8 (85 + 29 * a.toNatClampNeg + 19))) (by first | rfl | (simp [pM, pJ, upM, upJ, upM_r, tk_M, tk_K, tk_0, tk_1, tk_2, tk_3, tk_4, tk_5, tk_6, tk_7, tk_8, tk_9, tk_10, tk_o, ms_0_0, ms_0_1, ms_0_2, ms_0_3, ms_0_4, ms_0_5, ms_0_6, ms_0_7, ms_0_8, ms_0_9, ms_0_10, ms_1_0, ms_1_1, ms_1_2, ms_1_3, ms_1_4, ms_1_5, ms_1_6, ms_1_7, ms_1_8, ms_1_9, ms_1_10, ms_w, ms_r, ms_d, ms_M, ms_6, ms_K, pC_row]; done) | (simp (disch := (first | omega | (simp only [tN, tD, tR, sF]; omega))) only [pM, pJ, upM_s, upM_k, upM_c, upJ_s, upJ_k, upJ_c, tk_M, tk_K, tk_0, tk_1, tk_2, tk_3, tk_4, tk_5, tk_6, tk_7, tk_8, tk_9, tk_10, tk_o, ms_0_0, ms_0_1, ms_0_2, ms_0_3, ms_0_4, ms_0_5, ms_0_6, ms_0_7, ms_0_8, ms_0_9, ms_0_10, ms_1_0, ms_1_1, ms_1_2, ms_1_3, ms_1_4, ms_1_5, ms_1_6, ms_1_7, ms_1_8, ms_1_9, ms_1_10, ms_w, ms_r, ms_d, ms_M, ms_6, ms_K, pC_row]; done) | rfl) ?_
        refine fold_i (show μ.1 8 (85 + 29 * a.toNatClampNeg + 19) = nI ((μ.1 8 (85 + 29 * a.toNatClampNeg + 19)).toNatClampNeg) from ((hI).2.2.2 _ c1ab).2.1.1) ?_
        refine lv_iconst (v := 1) hx hb dX8_reads_110 (by decide) ?_
        refine lv_iadd hx hb dX8_reads_111 ?_
        refine fold_i (show nI ((μ.1 8 (85 + 29 * a.toNatClampNeg + 19)).toNatClampNeg) + (1 : Int32) = nI ((μ.1 8 (85 + 29 * a.toNatClampNeg + 19)).toNatClampNeg + 1) from nI_add ((μ.1 8 (85 + 29 * a.toNatClampNeg + 19)).toNatClampNeg) (1)) ?_
        refine c_v hw (run_V (As := [.int (nI (a.toNatClampNeg)), .int 19, .int (nI ((μ.1 8 (85 + 29 * a.toNatClampNeg + 19)).toNatClampNeg + 1))]) (rest := []) (np := 3) hf hw (kn_X8_put l E _  a.toNatClampNeg 19 (nI ((μ.1 8 (85 + 29 * a.toNatClampNeg + 19)).toNatClampNeg + 1))  (show a.toNatClampNeg < 6 from c1ab) (show 19 < 29 from (by decide))) ⟨gl_V q335 q336 q337 q5 q338, by decide +kernel⟩ ⟨rfl, rfl, Nat.le_of_ble_eq_true rfl, Nat.le_of_ble_eq_true rfl⟩ (by decide) (c_R E _) rfl rfl hl.1 rfl (Nat.le_of_ble_eq_true rfl) dX8_reads_112 ⟨Nat.zero_le _, Nat.zero_le _⟩) (fun H locs hw => ?_)
        refine lv_aload_n hx hb dX8_reads_115 rfl (lv_at hl 1 rfl) ?_
        refine lv_iload_n hx hb dX8_reads_116 rfl (lv_at hl 2 rfl) ?_
        refine fold_i (show a = nI (a.toNatClampNeg) from c1a.1) ?_
        refine lv_bipush (v := 18) hx hb dX8_reads_117 (by decide) ?_
        refine lv_aload_n hx hb dX8_reads_119 rfl (lv_at hl 1 rfl) ?_
        refine lv_iload_n hx hb dX8_reads_120 rfl (lv_at hl 2 rfl) ?_
        refine fold_i (show a = nI (a.toNatClampNeg) from c1a.1) ?_
        refine lv_bipush (v := 18) hx hb dX8_reads_121 (by decide) ?_
        refine c_iR hw (run_V (As := [.int (nI (a.toNatClampNeg)), .int 18]) (rest := [.int 18, .int (nI (a.toNatClampNeg)), .ref (E.1 (232))]) (np := 2) hf hw (kn_X8_of l E _  a.toNatClampNeg 18  (show a.toNatClampNeg < 6 from c1ab) (show 18 < 29 from (by decide))) ⟨gl_V q227 q228 q229 q5 q230, by decide +kernel⟩ ⟨rfl, rfl, Nat.le_of_ble_eq_true rfl, Nat.le_of_ble_eq_true rfl⟩ (by decide) (c_R E _) rfl rfl hl.1 rfl (Nat.le_of_ble_eq_true rfl) dX8_reads_123 ⟨Nat.zero_le _, Nat.zero_le _⟩) (fun H locs hw => ?_)
        refine fold_i (y := (μ.1 8 (85 + 29 * a.toNatClampNeg + 18))) (by first | rfl | (simp [pM, pJ, upM, upJ, upM_r, tk_M, tk_K, tk_0, tk_1, tk_2, tk_3, tk_4, tk_5, tk_6, tk_7, tk_8, tk_9, tk_10, tk_o, ms_0_0, ms_0_1, ms_0_2, ms_0_3, ms_0_4, ms_0_5, ms_0_6, ms_0_7, ms_0_8, ms_0_9, ms_0_10, ms_1_0, ms_1_1, ms_1_2, ms_1_3, ms_1_4, ms_1_5, ms_1_6, ms_1_7, ms_1_8, ms_1_9, ms_1_10, ms_w, ms_r, ms_d, ms_M, ms_6, ms_K, pC_row]; done) | (simp (disch := (first | omega | (simp only [tN, tD, tR, sF]; omega))) only [pM, pJ, upM_s, upM_k, upM_c, upJ_s, upJ_k, upJ_c, tk_M, tk_K, tk_0, tk_1, tk_2, tk_3, tk_4, tk_5, tk_6, tk_7, tk_8, tk_9, tk_10, tk_o, ms_0_0, ms_0_1, ms_0_2, ms_0_3, ms_0_4, ms_0_5, ms_0_6, ms_0_7, ms_0_8, ms_0_9, ms_0_10, ms_1_0, ms_1_1, ms_1_2, ms_1_3, ms_1_4, ms_1_5, ms_1_6, ms_1_7, ms_1_8, ms_1_9, ms_1_10, ms_w, ms_r, ms_d, ms_M, ms_6, ms_K, pC_row]; done) | rfl) ?_
        refine lv_iconst (v := 1) hx hb dX8_reads_126 (by decide) ?_
        refine lv_iadd hx hb dX8_reads_127 ?_
        refine c_v hw (run_V (As := [.int (nI (a.toNatClampNeg)), .int 18, .int ((μ.1 8 (85 + 29 * a.toNatClampNeg + 18)) + 1)]) (rest := []) (np := 3) hf hw (kn_X8_put l E _  a.toNatClampNeg 18 ((μ.1 8 (85 + 29 * a.toNatClampNeg + 18)) + 1)  (show a.toNatClampNeg < 6 from c1ab) (show 18 < 29 from (by decide))) ⟨gl_V q335 q336 q337 q5 q338, by decide +kernel⟩ ⟨rfl, rfl, Nat.le_of_ble_eq_true rfl, Nat.le_of_ble_eq_true rfl⟩ (by decide) (c_R E _) rfl rfl hl.1 rfl (Nat.le_of_ble_eq_true rfl) dX8_reads_128 ⟨Nat.zero_le _, Nat.zero_le _⟩) (fun H locs hw => ?_)
        refine lv_aload_n hx hb dX8_reads_131 rfl (lv_at hl 1 rfl) ?_
        refine lv_iload_n hx hb dX8_reads_132 rfl (lv_at hl 2 rfl) ?_
        refine fold_i (show a = nI (a.toNatClampNeg) from c1a.1) ?_
        refine lv_iload_n hx hb dX8_reads_133 rfl (lv_at hl 0 rfl) ?_
        refine c_v hw (run_V (As := [.int (nI (a.toNatClampNeg)), .int (sp_X8_degrees (μ.1 8)  a.toNatClampNeg)]) (rest := []) (np := 2) hf hw (k_X8_alarms l E _  a.toNatClampNeg (sp_X8_degrees (μ.1 8)  a.toNatClampNeg)  (show a.toNatClampNeg < 6 from c1ab)) ⟨gl_V q789 q790 q791 q5 q792, by decide +kernel⟩ ⟨rfl, rfl, Nat.le_of_ble_eq_true rfl, Nat.le_of_ble_eq_true rfl⟩ (by decide) (c_R E _) rfl rfl hl.1 rfl (Nat.le_of_ble_eq_true rfl) dX8_reads_134 ⟨Nat.zero_le _, Nat.zero_le _⟩) (fun H locs hw => ?_)
        refine lv_iload_n hx hb dX8_reads_137 rfl (lv_at hl 0 rfl) ?_
        exact e_i hf hr hlocks hw rfl ((if_pos c1).trans ((if_pos c2).trans ((if_neg c4).trans rfl))) dX8_reads_138
      · have c4n : ((μ.1 8 (85 + 29 * a.toNatClampNeg + 19)).toNatClampNeg) = 9 := by have q := (nI_eq (a := ((μ.1 8 (85 + 29 * a.toNatClampNeg + 19)).toNatClampNeg)) (b := 9) (by omega) (by omega)); first | exact q.mp c4 | exact fun z => c4 (q.mpr z)
        refine lv_iconst (v := 0) hx hb dX8_reads_40 (by decide) ?_
        refine lv_istore_n (lv' := [(3, .int 0), (2, .int (sp_X8_degrees (μ.1 8)  a.toNatClampNeg)), (0, .ref (E.1 (232))), (1, .int (a))]) hx hb dX8_reads_41 rfl hl (by decide) rfl (fun ls hl => ?_)
        refine lv_iload_n hx hb dX8_reads_42 rfl (lv_at hl 0 rfl) ?_
        refine lv_bipush (v := 8) hx hb dX8_reads_43 (by decide) ?_
        refine lv_icmp_ge (tgt := 74) hx hb dX8_reads_45 (by decide) (fun c => absurd c (by decide)) (fun _ => ?_)
        refine lv_aload_n hx hb dX8_reads_48 rfl (lv_at hl 2 rfl) ?_
        refine lv_iload_n hx hb dX8_reads_49 rfl (lv_at hl 3 rfl) ?_
        refine fold_i (show a = nI (a.toNatClampNeg) from c1a.1) ?_
        refine lv_bipush (v := 20) hx hb dX8_reads_50 (by decide) ?_
        refine lv_iload_n hx hb dX8_reads_52 rfl (lv_at hl 0 rfl) ?_
        refine lv_iadd hx hb dX8_reads_53 ?_
        refine fold_i (show (20 + 0 : Int32) = 20 from by decide) ?_
        refine lv_aload_n hx hb dX8_reads_54 rfl (lv_at hl 2 rfl) ?_
        refine lv_iload_n hx hb dX8_reads_55 rfl (lv_at hl 3 rfl) ?_
        refine fold_i (show a = nI (a.toNatClampNeg) from c1a.1) ?_
        refine lv_bipush (v := 20) hx hb dX8_reads_56 (by decide) ?_
        refine lv_iload_n hx hb dX8_reads_58 rfl (lv_at hl 0 rfl) ?_
        refine lv_iadd hx hb dX8_reads_59 ?_
        refine fold_i (show (20 + 0 : Int32) = 20 from by decide) ?_
        refine lv_iconst (v := 1) hx hb dX8_reads_60 (by decide) ?_
        refine lv_iadd hx hb dX8_reads_61 ?_
        refine fold_i (show (20 + 1 : Int32) = 21 from by decide) ?_
        refine c_iR hw (run_V (As := [.int (nI (a.toNatClampNeg)), .int 21]) (rest := [.int 20, .int (nI (a.toNatClampNeg)), .ref (E.1 (232))]) (np := 2) hf hw (kn_X8_of l E _  a.toNatClampNeg 21  (show a.toNatClampNeg < 6 from c1ab) (show 21 < 29 from (by decide))) ⟨gl_V q227 q228 q229 q5 q230, by decide +kernel⟩ ⟨rfl, rfl, Nat.le_of_ble_eq_true rfl, Nat.le_of_ble_eq_true rfl⟩ (by decide) (c_R E _) rfl rfl hl.1 rfl (Nat.le_of_ble_eq_true rfl) dX8_reads_62 ⟨Nat.zero_le _, Nat.zero_le _⟩) (fun H locs hw => ?_)
        refine c_v hw (run_V (As := [.int (nI (a.toNatClampNeg)), .int 20, .int ((μ.1 8 (85 + 29 * a.toNatClampNeg + 21)))]) (rest := []) (np := 3) hf hw (kn_X8_put l E _  a.toNatClampNeg 20 (μ.1 8 (85 + 29 * a.toNatClampNeg + 21))  (show a.toNatClampNeg < 6 from c1ab) (show 20 < 29 from (by decide))) ⟨gl_V q335 q336 q337 q5 q338, by decide +kernel⟩ ⟨rfl, rfl, Nat.le_of_ble_eq_true rfl, Nat.le_of_ble_eq_true rfl⟩ (by decide) (c_R E _) rfl rfl hl.1 rfl (Nat.le_of_ble_eq_true rfl) dX8_reads_65 ⟨Nat.zero_le _, Nat.zero_le _⟩) (fun H locs hw => ?_)
        refine lv_iinc (v := 1) (lv' := [(3, .int 1), (2, .int (sp_X8_degrees (μ.1 8)  a.toNatClampNeg)), (0, .ref (E.1 (232))), (1, .int (a))]) hx hb dX8_reads_68 hl (k := 0) rfl (by decide) (by decide) rfl (fun ls hl => ?_)
        refine lv_goto (tgt := 42) hx hb dX8_reads_71 (by decide) ?_
        refine lv_iload_n hx hb dX8_reads_42 rfl (lv_at hl 0 rfl) ?_
        refine lv_bipush (v := 8) hx hb dX8_reads_43 (by decide) ?_
        refine lv_icmp_ge (tgt := 74) hx hb dX8_reads_45 (by decide) (fun c => absurd c (by decide)) (fun _ => ?_)
        refine lv_aload_n hx hb dX8_reads_48 rfl (lv_at hl 2 rfl) ?_
        refine lv_iload_n hx hb dX8_reads_49 rfl (lv_at hl 3 rfl) ?_
        refine fold_i (show a = nI (a.toNatClampNeg) from c1a.1) ?_
        refine lv_bipush (v := 20) hx hb dX8_reads_50 (by decide) ?_
        refine lv_iload_n hx hb dX8_reads_52 rfl (lv_at hl 0 rfl) ?_
        refine lv_iadd hx hb dX8_reads_53 ?_
        refine fold_i (show (20 + 1 : Int32) = 21 from by decide) ?_
        refine lv_aload_n hx hb dX8_reads_54 rfl (lv_at hl 2 rfl) ?_
        refine lv_iload_n hx hb dX8_reads_55 rfl (lv_at hl 3 rfl) ?_
        refine fold_i (show a = nI (a.toNatClampNeg) from c1a.1) ?_
        refine lv_bipush (v := 20) hx hb dX8_reads_56 (by decide) ?_
        refine lv_iload_n hx hb dX8_reads_58 rfl (lv_at hl 0 rfl) ?_
        refine lv_iadd hx hb dX8_reads_59 ?_
        refine fold_i (show (20 + 1 : Int32) = 21 from by decide) ?_
        refine lv_iconst (v := 1) hx hb dX8_reads_60 (by decide) ?_
        refine lv_iadd hx hb dX8_reads_61 ?_
        refine fold_i (show (21 + 1 : Int32) = 22 from by decide) ?_
        refine c_iR hw (run_V (As := [.int (nI (a.toNatClampNeg)), .int 22]) (rest := [.int 21, .int (nI (a.toNatClampNeg)), .ref (E.1 (232))]) (np := 2) hf hw (kn_X8_of l E _  a.toNatClampNeg 22  (show a.toNatClampNeg < 6 from c1ab) (show 22 < 29 from (by decide))) ⟨gl_V q227 q228 q229 q5 q230, by decide +kernel⟩ ⟨rfl, rfl, Nat.le_of_ble_eq_true rfl, Nat.le_of_ble_eq_true rfl⟩ (by decide) (c_R E _) rfl rfl hl.1 rfl (Nat.le_of_ble_eq_true rfl) dX8_reads_62 ⟨Nat.zero_le _, Nat.zero_le _⟩) (fun H locs hw => ?_)
        refine fold_i (y := (μ.1 8 (85 + 29 * a.toNatClampNeg + 22))) (by first | rfl | (simp [pM, pJ, upM, upJ, upM_r, tk_M, tk_K, tk_0, tk_1, tk_2, tk_3, tk_4, tk_5, tk_6, tk_7, tk_8, tk_9, tk_10, tk_o, ms_0_0, ms_0_1, ms_0_2, ms_0_3, ms_0_4, ms_0_5, ms_0_6, ms_0_7, ms_0_8, ms_0_9, ms_0_10, ms_1_0, ms_1_1, ms_1_2, ms_1_3, ms_1_4, ms_1_5, ms_1_6, ms_1_7, ms_1_8, ms_1_9, ms_1_10, ms_w, ms_r, ms_d, ms_M, ms_6, ms_K, pC_row]; done) | (simp (disch := (first | omega | (simp only [tN, tD, tR, sF]; omega))) only [pM, pJ, upM_s, upM_k, upM_c, upJ_s, upJ_k, upJ_c, tk_M, tk_K, tk_0, tk_1, tk_2, tk_3, tk_4, tk_5, tk_6, tk_7, tk_8, tk_9, tk_10, tk_o, ms_0_0, ms_0_1, ms_0_2, ms_0_3, ms_0_4, ms_0_5, ms_0_6, ms_0_7, ms_0_8, ms_0_9, ms_0_10, ms_1_0, ms_1_1, ms_1_2, ms_1_3, ms_1_4, ms_1_5, ms_1_6, ms_1_7, ms_1_8, ms_1_9, ms_1_10, ms_w, ms_r, ms_d, ms_M, ms_6, ms_K, pC_row]; done) | rfl) ?_
        refine c_v hw (run_V (As := [.int (nI (a.toNatClampNeg)), .int 21, .int ((μ.1 8 (85 + 29 * a.toNatClampNeg + 22)))]) (rest := []) (np := 3) hf hw (kn_X8_put l E _  a.toNatClampNeg 21 (μ.1 8 (85 + 29 * a.toNatClampNeg + 22))  (show a.toNatClampNeg < 6 from c1ab) (show 21 < 29 from (by decide))) ⟨gl_V q335 q336 q337 q5 q338, by decide +kernel⟩ ⟨rfl, rfl, Nat.le_of_ble_eq_true rfl, Nat.le_of_ble_eq_true rfl⟩ (by decide) (c_R E _) rfl rfl hl.1 rfl (Nat.le_of_ble_eq_true rfl) dX8_reads_65 ⟨Nat.zero_le _, Nat.zero_le _⟩) (fun H locs hw => ?_)
        refine lv_iinc (v := 2) (lv' := [(3, .int 2), (2, .int (sp_X8_degrees (μ.1 8)  a.toNatClampNeg)), (0, .ref (E.1 (232))), (1, .int (a))]) hx hb dX8_reads_68 hl (k := 0) rfl (by decide) (by decide) rfl (fun ls hl => ?_)
        refine lv_goto (tgt := 42) hx hb dX8_reads_71 (by decide) ?_
        refine lv_iload_n hx hb dX8_reads_42 rfl (lv_at hl 0 rfl) ?_
        refine lv_bipush (v := 8) hx hb dX8_reads_43 (by decide) ?_
        refine lv_icmp_ge (tgt := 74) hx hb dX8_reads_45 (by decide) (fun c => absurd c (by decide)) (fun _ => ?_)
        refine lv_aload_n hx hb dX8_reads_48 rfl (lv_at hl 2 rfl) ?_
        refine lv_iload_n hx hb dX8_reads_49 rfl (lv_at hl 3 rfl) ?_
        refine fold_i (show a = nI (a.toNatClampNeg) from c1a.1) ?_
        refine lv_bipush (v := 20) hx hb dX8_reads_50 (by decide) ?_
        refine lv_iload_n hx hb dX8_reads_52 rfl (lv_at hl 0 rfl) ?_
        refine lv_iadd hx hb dX8_reads_53 ?_
        refine fold_i (show (20 + 2 : Int32) = 22 from by decide) ?_
        refine lv_aload_n hx hb dX8_reads_54 rfl (lv_at hl 2 rfl) ?_
        refine lv_iload_n hx hb dX8_reads_55 rfl (lv_at hl 3 rfl) ?_
        refine fold_i (show a = nI (a.toNatClampNeg) from c1a.1) ?_
        refine lv_bipush (v := 20) hx hb dX8_reads_56 (by decide) ?_
        refine lv_iload_n hx hb dX8_reads_58 rfl (lv_at hl 0 rfl) ?_
        refine lv_iadd hx hb dX8_reads_59 ?_
        refine fold_i (show (20 + 2 : Int32) = 22 from by decide) ?_
        refine lv_iconst (v := 1) hx hb dX8_reads_60 (by decide) ?_
        refine lv_iadd hx hb dX8_reads_61 ?_
        refine fold_i (show (22 + 1 : Int32) = 23 from by decide) ?_
        refine c_iR hw (run_V (As := [.int (nI (a.toNatClampNeg)), .int 23]) (rest := [.int 22, .int (nI (a.toNatClampNeg)), .ref (E.1 (232))]) (np := 2) hf hw (kn_X8_of l E _  a.toNatClampNeg 23  (show a.toNatClampNeg < 6 from c1ab) (show 23 < 29 from (by decide))) ⟨gl_V q227 q228 q229 q5 q230, by decide +kernel⟩ ⟨rfl, rfl, Nat.le_of_ble_eq_true rfl, Nat.le_of_ble_eq_true rfl⟩ (by decide) (c_R E _) rfl rfl hl.1 rfl (Nat.le_of_ble_eq_true rfl) dX8_reads_62 ⟨Nat.zero_le _, Nat.zero_le _⟩) (fun H locs hw => ?_)
        refine fold_i (y := (μ.1 8 (85 + 29 * a.toNatClampNeg + 23))) (by first | rfl | (simp [pM, pJ, upM, upJ, upM_r, tk_M, tk_K, tk_0, tk_1, tk_2, tk_3, tk_4, tk_5, tk_6, tk_7, tk_8, tk_9, tk_10, tk_o, ms_0_0, ms_0_1, ms_0_2, ms_0_3, ms_0_4, ms_0_5, ms_0_6, ms_0_7, ms_0_8, ms_0_9, ms_0_10, ms_1_0, ms_1_1, ms_1_2, ms_1_3, ms_1_4, ms_1_5, ms_1_6, ms_1_7, ms_1_8, ms_1_9, ms_1_10, ms_w, ms_r, ms_d, ms_M, ms_6, ms_K, pC_row]; done) | (simp (disch := (first | omega | (simp only [tN, tD, tR, sF]; omega))) only [pM, pJ, upM_s, upM_k, upM_c, upJ_s, upJ_k, upJ_c, tk_M, tk_K, tk_0, tk_1, tk_2, tk_3, tk_4, tk_5, tk_6, tk_7, tk_8, tk_9, tk_10, tk_o, ms_0_0, ms_0_1, ms_0_2, ms_0_3, ms_0_4, ms_0_5, ms_0_6, ms_0_7, ms_0_8, ms_0_9, ms_0_10, ms_1_0, ms_1_1, ms_1_2, ms_1_3, ms_1_4, ms_1_5, ms_1_6, ms_1_7, ms_1_8, ms_1_9, ms_1_10, ms_w, ms_r, ms_d, ms_M, ms_6, ms_K, pC_row]; done) | rfl) ?_
        refine c_v hw (run_V (As := [.int (nI (a.toNatClampNeg)), .int 22, .int ((μ.1 8 (85 + 29 * a.toNatClampNeg + 23)))]) (rest := []) (np := 3) hf hw (kn_X8_put l E _  a.toNatClampNeg 22 (μ.1 8 (85 + 29 * a.toNatClampNeg + 23))  (show a.toNatClampNeg < 6 from c1ab) (show 22 < 29 from (by decide))) ⟨gl_V q335 q336 q337 q5 q338, by decide +kernel⟩ ⟨rfl, rfl, Nat.le_of_ble_eq_true rfl, Nat.le_of_ble_eq_true rfl⟩ (by decide) (c_R E _) rfl rfl hl.1 rfl (Nat.le_of_ble_eq_true rfl) dX8_reads_65 ⟨Nat.zero_le _, Nat.zero_le _⟩) (fun H locs hw => ?_)
        refine lv_iinc (v := 3) (lv' := [(3, .int 3), (2, .int (sp_X8_degrees (μ.1 8)  a.toNatClampNeg)), (0, .ref (E.1 (232))), (1, .int (a))]) hx hb dX8_reads_68 hl (k := 0) rfl (by decide) (by decide) rfl (fun ls hl => ?_)
        refine lv_goto (tgt := 42) hx hb dX8_reads_71 (by decide) ?_
        refine lv_iload_n hx hb dX8_reads_42 rfl (lv_at hl 0 rfl) ?_
        refine lv_bipush (v := 8) hx hb dX8_reads_43 (by decide) ?_
        refine lv_icmp_ge (tgt := 74) hx hb dX8_reads_45 (by decide) (fun c => absurd c (by decide)) (fun _ => ?_)
        refine lv_aload_n hx hb dX8_reads_48 rfl (lv_at hl 2 rfl) ?_
        refine lv_iload_n hx hb dX8_reads_49 rfl (lv_at hl 3 rfl) ?_
        refine fold_i (show a = nI (a.toNatClampNeg) from c1a.1) ?_
        refine lv_bipush (v := 20) hx hb dX8_reads_50 (by decide) ?_
        refine lv_iload_n hx hb dX8_reads_52 rfl (lv_at hl 0 rfl) ?_
        refine lv_iadd hx hb dX8_reads_53 ?_
        refine fold_i (show (20 + 3 : Int32) = 23 from by decide) ?_
        refine lv_aload_n hx hb dX8_reads_54 rfl (lv_at hl 2 rfl) ?_
        refine lv_iload_n hx hb dX8_reads_55 rfl (lv_at hl 3 rfl) ?_
        refine fold_i (show a = nI (a.toNatClampNeg) from c1a.1) ?_
        refine lv_bipush (v := 20) hx hb dX8_reads_56 (by decide) ?_
        refine lv_iload_n hx hb dX8_reads_58 rfl (lv_at hl 0 rfl) ?_
        refine lv_iadd hx hb dX8_reads_59 ?_
        refine fold_i (show (20 + 3 : Int32) = 23 from by decide) ?_
        refine lv_iconst (v := 1) hx hb dX8_reads_60 (by decide) ?_
        refine lv_iadd hx hb dX8_reads_61 ?_
        refine fold_i (show (23 + 1 : Int32) = 24 from by decide) ?_
        refine c_iR hw (run_V (As := [.int (nI (a.toNatClampNeg)), .int 24]) (rest := [.int 23, .int (nI (a.toNatClampNeg)), .ref (E.1 (232))]) (np := 2) hf hw (kn_X8_of l E _  a.toNatClampNeg 24  (show a.toNatClampNeg < 6 from c1ab) (show 24 < 29 from (by decide))) ⟨gl_V q227 q228 q229 q5 q230, by decide +kernel⟩ ⟨rfl, rfl, Nat.le_of_ble_eq_true rfl, Nat.le_of_ble_eq_true rfl⟩ (by decide) (c_R E _) rfl rfl hl.1 rfl (Nat.le_of_ble_eq_true rfl) dX8_reads_62 ⟨Nat.zero_le _, Nat.zero_le _⟩) (fun H locs hw => ?_)
        refine fold_i (y := (μ.1 8 (85 + 29 * a.toNatClampNeg + 24))) (by first | rfl | (simp [pM, pJ, upM, upJ, upM_r, tk_M, tk_K, tk_0, tk_1, tk_2, tk_3, tk_4, tk_5, tk_6, tk_7, tk_8, tk_9, tk_10, tk_o, ms_0_0, ms_0_1, ms_0_2, ms_0_3, ms_0_4, ms_0_5, ms_0_6, ms_0_7, ms_0_8, ms_0_9, ms_0_10, ms_1_0, ms_1_1, ms_1_2, ms_1_3, ms_1_4, ms_1_5, ms_1_6, ms_1_7, ms_1_8, ms_1_9, ms_1_10, ms_w, ms_r, ms_d, ms_M, ms_6, ms_K, pC_row]; done) | (simp (disch := (first | omega | (simp only [tN, tD, tR, sF]; omega))) only [pM, pJ, upM_s, upM_k, upM_c, upJ_s, upJ_k, upJ_c, tk_M, tk_K, tk_0, tk_1, tk_2, tk_3, tk_4, tk_5, tk_6, tk_7, tk_8, tk_9, tk_10, tk_o, ms_0_0, ms_0_1, ms_0_2, ms_0_3, ms_0_4, ms_0_5, ms_0_6, ms_0_7, ms_0_8, ms_0_9, ms_0_10, ms_1_0, ms_1_1, ms_1_2, ms_1_3, ms_1_4, ms_1_5, ms_1_6, ms_1_7, ms_1_8, ms_1_9, ms_1_10, ms_w, ms_r, ms_d, ms_M, ms_6, ms_K, pC_row]; done) | rfl) ?_
        refine c_v hw (run_V (As := [.int (nI (a.toNatClampNeg)), .int 23, .int ((μ.1 8 (85 + 29 * a.toNatClampNeg + 24)))]) (rest := []) (np := 3) hf hw (kn_X8_put l E _  a.toNatClampNeg 23 (μ.1 8 (85 + 29 * a.toNatClampNeg + 24))  (show a.toNatClampNeg < 6 from c1ab) (show 23 < 29 from (by decide))) ⟨gl_V q335 q336 q337 q5 q338, by decide +kernel⟩ ⟨rfl, rfl, Nat.le_of_ble_eq_true rfl, Nat.le_of_ble_eq_true rfl⟩ (by decide) (c_R E _) rfl rfl hl.1 rfl (Nat.le_of_ble_eq_true rfl) dX8_reads_65 ⟨Nat.zero_le _, Nat.zero_le _⟩) (fun H locs hw => ?_)
        refine lv_iinc (v := 4) (lv' := [(3, .int 4), (2, .int (sp_X8_degrees (μ.1 8)  a.toNatClampNeg)), (0, .ref (E.1 (232))), (1, .int (a))]) hx hb dX8_reads_68 hl (k := 0) rfl (by decide) (by decide) rfl (fun ls hl => ?_)
        refine lv_goto (tgt := 42) hx hb dX8_reads_71 (by decide) ?_
        refine lv_iload_n hx hb dX8_reads_42 rfl (lv_at hl 0 rfl) ?_
        refine lv_bipush (v := 8) hx hb dX8_reads_43 (by decide) ?_
        refine lv_icmp_ge (tgt := 74) hx hb dX8_reads_45 (by decide) (fun c => absurd c (by decide)) (fun _ => ?_)
        refine lv_aload_n hx hb dX8_reads_48 rfl (lv_at hl 2 rfl) ?_
        refine lv_iload_n hx hb dX8_reads_49 rfl (lv_at hl 3 rfl) ?_
        refine fold_i (show a = nI (a.toNatClampNeg) from c1a.1) ?_
        refine lv_bipush (v := 20) hx hb dX8_reads_50 (by decide) ?_
        refine lv_iload_n hx hb dX8_reads_52 rfl (lv_at hl 0 rfl) ?_
        refine lv_iadd hx hb dX8_reads_53 ?_
        refine fold_i (show (20 + 4 : Int32) = 24 from by decide) ?_
        refine lv_aload_n hx hb dX8_reads_54 rfl (lv_at hl 2 rfl) ?_
        refine lv_iload_n hx hb dX8_reads_55 rfl (lv_at hl 3 rfl) ?_
        refine fold_i (show a = nI (a.toNatClampNeg) from c1a.1) ?_
        refine lv_bipush (v := 20) hx hb dX8_reads_56 (by decide) ?_
        refine lv_iload_n hx hb dX8_reads_58 rfl (lv_at hl 0 rfl) ?_
        refine lv_iadd hx hb dX8_reads_59 ?_
        refine fold_i (show (20 + 4 : Int32) = 24 from by decide) ?_
        refine lv_iconst (v := 1) hx hb dX8_reads_60 (by decide) ?_
        refine lv_iadd hx hb dX8_reads_61 ?_
        refine fold_i (show (24 + 1 : Int32) = 25 from by decide) ?_
        refine c_iR hw (run_V (As := [.int (nI (a.toNatClampNeg)), .int 25]) (rest := [.int 24, .int (nI (a.toNatClampNeg)), .ref (E.1 (232))]) (np := 2) hf hw (kn_X8_of l E _  a.toNatClampNeg 25  (show a.toNatClampNeg < 6 from c1ab) (show 25 < 29 from (by decide))) ⟨gl_V q227 q228 q229 q5 q230, by decide +kernel⟩ ⟨rfl, rfl, Nat.le_of_ble_eq_true rfl, Nat.le_of_ble_eq_true rfl⟩ (by decide) (c_R E _) rfl rfl hl.1 rfl (Nat.le_of_ble_eq_true rfl) dX8_reads_62 ⟨Nat.zero_le _, Nat.zero_le _⟩) (fun H locs hw => ?_)
        refine fold_i (y := (μ.1 8 (85 + 29 * a.toNatClampNeg + 25))) (by first | rfl | (simp [pM, pJ, upM, upJ, upM_r, tk_M, tk_K, tk_0, tk_1, tk_2, tk_3, tk_4, tk_5, tk_6, tk_7, tk_8, tk_9, tk_10, tk_o, ms_0_0, ms_0_1, ms_0_2, ms_0_3, ms_0_4, ms_0_5, ms_0_6, ms_0_7, ms_0_8, ms_0_9, ms_0_10, ms_1_0, ms_1_1, ms_1_2, ms_1_3, ms_1_4, ms_1_5, ms_1_6, ms_1_7, ms_1_8, ms_1_9, ms_1_10, ms_w, ms_r, ms_d, ms_M, ms_6, ms_K, pC_row]; done) | (simp (disch := (first | omega | (simp only [tN, tD, tR, sF]; omega))) only [pM, pJ, upM_s, upM_k, upM_c, upJ_s, upJ_k, upJ_c, tk_M, tk_K, tk_0, tk_1, tk_2, tk_3, tk_4, tk_5, tk_6, tk_7, tk_8, tk_9, tk_10, tk_o, ms_0_0, ms_0_1, ms_0_2, ms_0_3, ms_0_4, ms_0_5, ms_0_6, ms_0_7, ms_0_8, ms_0_9, ms_0_10, ms_1_0, ms_1_1, ms_1_2, ms_1_3, ms_1_4, ms_1_5, ms_1_6, ms_1_7, ms_1_8, ms_1_9, ms_1_10, ms_w, ms_r, ms_d, ms_M, ms_6, ms_K, pC_row]; done) | rfl) ?_
        refine c_v hw (run_V (As := [.int (nI (a.toNatClampNeg)), .int 24, .int ((μ.1 8 (85 + 29 * a.toNatClampNeg + 25)))]) (rest := []) (np := 3) hf hw (kn_X8_put l E _  a.toNatClampNeg 24 (μ.1 8 (85 + 29 * a.toNatClampNeg + 25))  (show a.toNatClampNeg < 6 from c1ab) (show 24 < 29 from (by decide))) ⟨gl_V q335 q336 q337 q5 q338, by decide +kernel⟩ ⟨rfl, rfl, Nat.le_of_ble_eq_true rfl, Nat.le_of_ble_eq_true rfl⟩ (by decide) (c_R E _) rfl rfl hl.1 rfl (Nat.le_of_ble_eq_true rfl) dX8_reads_65 ⟨Nat.zero_le _, Nat.zero_le _⟩) (fun H locs hw => ?_)
        refine lv_iinc (v := 5) (lv' := [(3, .int 5), (2, .int (sp_X8_degrees (μ.1 8)  a.toNatClampNeg)), (0, .ref (E.1 (232))), (1, .int (a))]) hx hb dX8_reads_68 hl (k := 0) rfl (by decide) (by decide) rfl (fun ls hl => ?_)
        refine lv_goto (tgt := 42) hx hb dX8_reads_71 (by decide) ?_
        refine lv_iload_n hx hb dX8_reads_42 rfl (lv_at hl 0 rfl) ?_
        refine lv_bipush (v := 8) hx hb dX8_reads_43 (by decide) ?_
        refine lv_icmp_ge (tgt := 74) hx hb dX8_reads_45 (by decide) (fun c => absurd c (by decide)) (fun _ => ?_)
        refine lv_aload_n hx hb dX8_reads_48 rfl (lv_at hl 2 rfl) ?_
        refine lv_iload_n hx hb dX8_reads_49 rfl (lv_at hl 3 rfl) ?_
        refine fold_i (show a = nI (a.toNatClampNeg) from c1a.1) ?_
        refine lv_bipush (v := 20) hx hb dX8_reads_50 (by decide) ?_
        refine lv_iload_n hx hb dX8_reads_52 rfl (lv_at hl 0 rfl) ?_
        refine lv_iadd hx hb dX8_reads_53 ?_
        refine fold_i (show (20 + 5 : Int32) = 25 from by decide) ?_
        refine lv_aload_n hx hb dX8_reads_54 rfl (lv_at hl 2 rfl) ?_
        refine lv_iload_n hx hb dX8_reads_55 rfl (lv_at hl 3 rfl) ?_
        refine fold_i (show a = nI (a.toNatClampNeg) from c1a.1) ?_
        refine lv_bipush (v := 20) hx hb dX8_reads_56 (by decide) ?_
        refine lv_iload_n hx hb dX8_reads_58 rfl (lv_at hl 0 rfl) ?_
        refine lv_iadd hx hb dX8_reads_59 ?_
        refine fold_i (show (20 + 5 : Int32) = 25 from by decide) ?_
        refine lv_iconst (v := 1) hx hb dX8_reads_60 (by decide) ?_
        refine lv_iadd hx hb dX8_reads_61 ?_
        refine fold_i (show (25 + 1 : Int32) = 26 from by decide) ?_
        refine c_iR hw (run_V (As := [.int (nI (a.toNatClampNeg)), .int 26]) (rest := [.int 25, .int (nI (a.toNatClampNeg)), .ref (E.1 (232))]) (np := 2) hf hw (kn_X8_of l E _  a.toNatClampNeg 26  (show a.toNatClampNeg < 6 from c1ab) (show 26 < 29 from (by decide))) ⟨gl_V q227 q228 q229 q5 q230, by decide +kernel⟩ ⟨rfl, rfl, Nat.le_of_ble_eq_true rfl, Nat.le_of_ble_eq_true rfl⟩ (by decide) (c_R E _) rfl rfl hl.1 rfl (Nat.le_of_ble_eq_true rfl) dX8_reads_62 ⟨Nat.zero_le _, Nat.zero_le _⟩) (fun H locs hw => ?_)
        refine fold_i (y := (μ.1 8 (85 + 29 * a.toNatClampNeg + 26))) (by first | rfl | (simp [pM, pJ, upM, upJ, upM_r, tk_M, tk_K, tk_0, tk_1, tk_2, tk_3, tk_4, tk_5, tk_6, tk_7, tk_8, tk_9, tk_10, tk_o, ms_0_0, ms_0_1, ms_0_2, ms_0_3, ms_0_4, ms_0_5, ms_0_6, ms_0_7, ms_0_8, ms_0_9, ms_0_10, ms_1_0, ms_1_1, ms_1_2, ms_1_3, ms_1_4, ms_1_5, ms_1_6, ms_1_7, ms_1_8, ms_1_9, ms_1_10, ms_w, ms_r, ms_d, ms_M, ms_6, ms_K, pC_row]; done) | (simp (disch := (first | omega | (simp only [tN, tD, tR, sF]; omega))) only [pM, pJ, upM_s, upM_k, upM_c, upJ_s, upJ_k, upJ_c, tk_M, tk_K, tk_0, tk_1, tk_2, tk_3, tk_4, tk_5, tk_6, tk_7, tk_8, tk_9, tk_10, tk_o, ms_0_0, ms_0_1, ms_0_2, ms_0_3, ms_0_4, ms_0_5, ms_0_6, ms_0_7, ms_0_8, ms_0_9, ms_0_10, ms_1_0, ms_1_1, ms_1_2, ms_1_3, ms_1_4, ms_1_5, ms_1_6, ms_1_7, ms_1_8, ms_1_9, ms_1_10, ms_w, ms_r, ms_d, ms_M, ms_6, ms_K, pC_row]; done) | rfl) ?_
        refine c_v hw (run_V (As := [.int (nI (a.toNatClampNeg)), .int 25, .int ((μ.1 8 (85 + 29 * a.toNatClampNeg + 26)))]) (rest := []) (np := 3) hf hw (kn_X8_put l E _  a.toNatClampNeg 25 (μ.1 8 (85 + 29 * a.toNatClampNeg + 26))  (show a.toNatClampNeg < 6 from c1ab) (show 25 < 29 from (by decide))) ⟨gl_V q335 q336 q337 q5 q338, by decide +kernel⟩ ⟨rfl, rfl, Nat.le_of_ble_eq_true rfl, Nat.le_of_ble_eq_true rfl⟩ (by decide) (c_R E _) rfl rfl hl.1 rfl (Nat.le_of_ble_eq_true rfl) dX8_reads_65 ⟨Nat.zero_le _, Nat.zero_le _⟩) (fun H locs hw => ?_)
        refine lv_iinc (v := 6) (lv' := [(3, .int 6), (2, .int (sp_X8_degrees (μ.1 8)  a.toNatClampNeg)), (0, .ref (E.1 (232))), (1, .int (a))]) hx hb dX8_reads_68 hl (k := 0) rfl (by decide) (by decide) rfl (fun ls hl => ?_)
        refine lv_goto (tgt := 42) hx hb dX8_reads_71 (by decide) ?_
        refine lv_iload_n hx hb dX8_reads_42 rfl (lv_at hl 0 rfl) ?_
        refine lv_bipush (v := 8) hx hb dX8_reads_43 (by decide) ?_
        refine lv_icmp_ge (tgt := 74) hx hb dX8_reads_45 (by decide) (fun c => absurd c (by decide)) (fun _ => ?_)
        refine lv_aload_n hx hb dX8_reads_48 rfl (lv_at hl 2 rfl) ?_
        refine lv_iload_n hx hb dX8_reads_49 rfl (lv_at hl 3 rfl) ?_
        refine fold_i (show a = nI (a.toNatClampNeg) from c1a.1) ?_
        refine lv_bipush (v := 20) hx hb dX8_reads_50 (by decide) ?_
        refine lv_iload_n hx hb dX8_reads_52 rfl (lv_at hl 0 rfl) ?_
        refine lv_iadd hx hb dX8_reads_53 ?_
        refine fold_i (show (20 + 6 : Int32) = 26 from by decide) ?_
        refine lv_aload_n hx hb dX8_reads_54 rfl (lv_at hl 2 rfl) ?_
        refine lv_iload_n hx hb dX8_reads_55 rfl (lv_at hl 3 rfl) ?_
        refine fold_i (show a = nI (a.toNatClampNeg) from c1a.1) ?_
        refine lv_bipush (v := 20) hx hb dX8_reads_56 (by decide) ?_
        refine lv_iload_n hx hb dX8_reads_58 rfl (lv_at hl 0 rfl) ?_
        refine lv_iadd hx hb dX8_reads_59 ?_
        refine fold_i (show (20 + 6 : Int32) = 26 from by decide) ?_
        refine lv_iconst (v := 1) hx hb dX8_reads_60 (by decide) ?_
        refine lv_iadd hx hb dX8_reads_61 ?_
        refine fold_i (show (26 + 1 : Int32) = 27 from by decide) ?_
        refine c_iR hw (run_V (As := [.int (nI (a.toNatClampNeg)), .int 27]) (rest := [.int 26, .int (nI (a.toNatClampNeg)), .ref (E.1 (232))]) (np := 2) hf hw (kn_X8_of l E _  a.toNatClampNeg 27  (show a.toNatClampNeg < 6 from c1ab) (show 27 < 29 from (by decide))) ⟨gl_V q227 q228 q229 q5 q230, by decide +kernel⟩ ⟨rfl, rfl, Nat.le_of_ble_eq_true rfl, Nat.le_of_ble_eq_true rfl⟩ (by decide) (c_R E _) rfl rfl hl.1 rfl (Nat.le_of_ble_eq_true rfl) dX8_reads_62 ⟨Nat.zero_le _, Nat.zero_le _⟩) (fun H locs hw => ?_)
        refine fold_i (y := (μ.1 8 (85 + 29 * a.toNatClampNeg + 27))) (by first | rfl | (simp [pM, pJ, upM, upJ, upM_r, tk_M, tk_K, tk_0, tk_1, tk_2, tk_3, tk_4, tk_5, tk_6, tk_7, tk_8, tk_9, tk_10, tk_o, ms_0_0, ms_0_1, ms_0_2, ms_0_3, ms_0_4, ms_0_5, ms_0_6, ms_0_7, ms_0_8, ms_0_9, ms_0_10, ms_1_0, ms_1_1, ms_1_2, ms_1_3, ms_1_4, ms_1_5, ms_1_6, ms_1_7, ms_1_8, ms_1_9, ms_1_10, ms_w, ms_r, ms_d, ms_M, ms_6, ms_K, pC_row]; done) | (simp (disch := (first | omega | (simp only [tN, tD, tR, sF]; omega))) only [pM, pJ, upM_s, upM_k, upM_c, upJ_s, upJ_k, upJ_c, tk_M, tk_K, tk_0, tk_1, tk_2, tk_3, tk_4, tk_5, tk_6, tk_7, tk_8, tk_9, tk_10, tk_o, ms_0_0, ms_0_1, ms_0_2, ms_0_3, ms_0_4, ms_0_5, ms_0_6, ms_0_7, ms_0_8, ms_0_9, ms_0_10, ms_1_0, ms_1_1, ms_1_2, ms_1_3, ms_1_4, ms_1_5, ms_1_6, ms_1_7, ms_1_8, ms_1_9, ms_1_10, ms_w, ms_r, ms_d, ms_M, ms_6, ms_K, pC_row]; done) | rfl) ?_
        refine c_v hw (run_V (As := [.int (nI (a.toNatClampNeg)), .int 26, .int ((μ.1 8 (85 + 29 * a.toNatClampNeg + 27)))]) (rest := []) (np := 3) hf hw (kn_X8_put l E _  a.toNatClampNeg 26 (μ.1 8 (85 + 29 * a.toNatClampNeg + 27))  (show a.toNatClampNeg < 6 from c1ab) (show 26 < 29 from (by decide))) ⟨gl_V q335 q336 q337 q5 q338, by decide +kernel⟩ ⟨rfl, rfl, Nat.le_of_ble_eq_true rfl, Nat.le_of_ble_eq_true rfl⟩ (by decide) (c_R E _) rfl rfl hl.1 rfl (Nat.le_of_ble_eq_true rfl) dX8_reads_65 ⟨Nat.zero_le _, Nat.zero_le _⟩) (fun H locs hw => ?_)
        refine lv_iinc (v := 7) (lv' := [(3, .int 7), (2, .int (sp_X8_degrees (μ.1 8)  a.toNatClampNeg)), (0, .ref (E.1 (232))), (1, .int (a))]) hx hb dX8_reads_68 hl (k := 0) rfl (by decide) (by decide) rfl (fun ls hl => ?_)
        refine lv_goto (tgt := 42) hx hb dX8_reads_71 (by decide) ?_
        refine lv_iload_n hx hb dX8_reads_42 rfl (lv_at hl 0 rfl) ?_
        refine lv_bipush (v := 8) hx hb dX8_reads_43 (by decide) ?_
        refine lv_icmp_ge (tgt := 74) hx hb dX8_reads_45 (by decide) (fun c => absurd c (by decide)) (fun _ => ?_)
        refine lv_aload_n hx hb dX8_reads_48 rfl (lv_at hl 2 rfl) ?_
        refine lv_iload_n hx hb dX8_reads_49 rfl (lv_at hl 3 rfl) ?_
        refine fold_i (show a = nI (a.toNatClampNeg) from c1a.1) ?_
        refine lv_bipush (v := 20) hx hb dX8_reads_50 (by decide) ?_
        refine lv_iload_n hx hb dX8_reads_52 rfl (lv_at hl 0 rfl) ?_
        refine lv_iadd hx hb dX8_reads_53 ?_
        refine fold_i (show (20 + 7 : Int32) = 27 from by decide) ?_
        refine lv_aload_n hx hb dX8_reads_54 rfl (lv_at hl 2 rfl) ?_
        refine lv_iload_n hx hb dX8_reads_55 rfl (lv_at hl 3 rfl) ?_
        refine fold_i (show a = nI (a.toNatClampNeg) from c1a.1) ?_
        refine lv_bipush (v := 20) hx hb dX8_reads_56 (by decide) ?_
        refine lv_iload_n hx hb dX8_reads_58 rfl (lv_at hl 0 rfl) ?_
        refine lv_iadd hx hb dX8_reads_59 ?_
        refine fold_i (show (20 + 7 : Int32) = 27 from by decide) ?_
        refine lv_iconst (v := 1) hx hb dX8_reads_60 (by decide) ?_
        refine lv_iadd hx hb dX8_reads_61 ?_
        refine fold_i (show (27 + 1 : Int32) = 28 from by decide) ?_
        refine c_iR hw (run_V (As := [.int (nI (a.toNatClampNeg)), .int 28]) (rest := [.int 27, .int (nI (a.toNatClampNeg)), .ref (E.1 (232))]) (np := 2) hf hw (kn_X8_of l E _  a.toNatClampNeg 28  (show a.toNatClampNeg < 6 from c1ab) (show 28 < 29 from (by decide))) ⟨gl_V q227 q228 q229 q5 q230, by decide +kernel⟩ ⟨rfl, rfl, Nat.le_of_ble_eq_true rfl, Nat.le_of_ble_eq_true rfl⟩ (by decide) (c_R E _) rfl rfl hl.1 rfl (Nat.le_of_ble_eq_true rfl) dX8_reads_62 ⟨Nat.zero_le _, Nat.zero_le _⟩) (fun H locs hw => ?_)
        refine fold_i (y := (μ.1 8 (85 + 29 * a.toNatClampNeg + 28))) (by first | rfl | (simp [pM, pJ, upM, upJ, upM_r, tk_M, tk_K, tk_0, tk_1, tk_2, tk_3, tk_4, tk_5, tk_6, tk_7, tk_8, tk_9, tk_10, tk_o, ms_0_0, ms_0_1, ms_0_2, ms_0_3, ms_0_4, ms_0_5, ms_0_6, ms_0_7, ms_0_8, ms_0_9, ms_0_10, ms_1_0, ms_1_1, ms_1_2, ms_1_3, ms_1_4, ms_1_5, ms_1_6, ms_1_7, ms_1_8, ms_1_9, ms_1_10, ms_w, ms_r, ms_d, ms_M, ms_6, ms_K, pC_row]; done) | (simp (disch := (first | omega | (simp only [tN, tD, tR, sF]; omega))) only [pM, pJ, upM_s, upM_k, upM_c, upJ_s, upJ_k, upJ_c, tk_M, tk_K, tk_0, tk_1, tk_2, tk_3, tk_4, tk_5, tk_6, tk_7, tk_8, tk_9, tk_10, tk_o, ms_0_0, ms_0_1, ms_0_2, ms_0_3, ms_0_4, ms_0_5, ms_0_6, ms_0_7, ms_0_8, ms_0_9, ms_0_10, ms_1_0, ms_1_1, ms_1_2, ms_1_3, ms_1_4, ms_1_5, ms_1_6, ms_1_7, ms_1_8, ms_1_9, ms_1_10, ms_w, ms_r, ms_d, ms_M, ms_6, ms_K, pC_row]; done) | rfl) ?_
        refine c_v hw (run_V (As := [.int (nI (a.toNatClampNeg)), .int 27, .int ((μ.1 8 (85 + 29 * a.toNatClampNeg + 28)))]) (rest := []) (np := 3) hf hw (kn_X8_put l E _  a.toNatClampNeg 27 (μ.1 8 (85 + 29 * a.toNatClampNeg + 28))  (show a.toNatClampNeg < 6 from c1ab) (show 27 < 29 from (by decide))) ⟨gl_V q335 q336 q337 q5 q338, by decide +kernel⟩ ⟨rfl, rfl, Nat.le_of_ble_eq_true rfl, Nat.le_of_ble_eq_true rfl⟩ (by decide) (c_R E _) rfl rfl hl.1 rfl (Nat.le_of_ble_eq_true rfl) dX8_reads_65 ⟨Nat.zero_le _, Nat.zero_le _⟩) (fun H locs hw => ?_)
        refine lv_iinc (v := 8) (lv' := [(3, .int 8), (2, .int (sp_X8_degrees (μ.1 8)  a.toNatClampNeg)), (0, .ref (E.1 (232))), (1, .int (a))]) hx hb dX8_reads_68 hl (k := 0) rfl (by decide) (by decide) rfl (fun ls hl => ?_)
        refine lv_goto (tgt := 42) hx hb dX8_reads_71 (by decide) ?_
        refine lv_iload_n hx hb dX8_reads_42 rfl (lv_at hl 0 rfl) ?_
        refine lv_bipush (v := 8) hx hb dX8_reads_43 (by decide) ?_
        refine lv_icmp_ge (tgt := 74) hx hb dX8_reads_45 (by decide) (fun _ => ?_) (fun c => absurd c (by decide))
        refine lv_aload_n hx hb dX8_reads_74 rfl (lv_at hl 2 rfl) ?_
        refine lv_iload_n hx hb dX8_reads_75 rfl (lv_at hl 3 rfl) ?_
        refine fold_i (show a = nI (a.toNatClampNeg) from c1a.1) ?_
        refine lv_bipush (v := 19) hx hb dX8_reads_76 (by decide) ?_
        refine lv_bipush (v := 8) hx hb dX8_reads_78 (by decide) ?_
        refine c_v hw (run_V (As := [.int (nI (a.toNatClampNeg)), .int 19, .int 8]) (rest := []) (np := 3) hf hw (kn_X8_put l E _  a.toNatClampNeg 19 (8 : Int32)  (show a.toNatClampNeg < 6 from c1ab) (show 19 < 29 from (by decide))) ⟨gl_V q335 q336 q337 q5 q338, by decide +kernel⟩ ⟨rfl, rfl, Nat.le_of_ble_eq_true rfl, Nat.le_of_ble_eq_true rfl⟩ (by decide) (c_R E _) rfl rfl hl.1 rfl (Nat.le_of_ble_eq_true rfl) dX8_reads_80 ⟨Nat.zero_le _, Nat.zero_le _⟩) (fun H locs hw => ?_)
        refine lv_aload_n hx hb dX8_reads_83 rfl (lv_at hl 2 rfl) ?_
        refine lv_iload_n hx hb dX8_reads_84 rfl (lv_at hl 3 rfl) ?_
        refine fold_i (show a = nI (a.toNatClampNeg) from c1a.1) ?_
        refine lv_bipush (v := 20) hx hb dX8_reads_85 (by decide) ?_
        refine lv_aload_n hx hb dX8_reads_87 rfl (lv_at hl 2 rfl) ?_
        refine lv_iload_n hx hb dX8_reads_88 rfl (lv_at hl 3 rfl) ?_
        refine fold_i (show a = nI (a.toNatClampNeg) from c1a.1) ?_
        refine lv_bipush (v := 19) hx hb dX8_reads_89 (by decide) ?_
        refine c_iR hw (run_V (As := [.int (nI (a.toNatClampNeg)), .int 19]) (rest := [.int 20, .int (nI (a.toNatClampNeg)), .ref (E.1 (232))]) (np := 2) hf hw (kn_X8_of l E _  a.toNatClampNeg 19  (show a.toNatClampNeg < 6 from c1ab) (show 19 < 29 from (by decide))) ⟨gl_V q227 q228 q229 q5 q230, by decide +kernel⟩ ⟨rfl, rfl, Nat.le_of_ble_eq_true rfl, Nat.le_of_ble_eq_true rfl⟩ (by decide) (c_R E _) rfl rfl hl.1 rfl (Nat.le_of_ble_eq_true rfl) dX8_reads_91 ⟨Nat.zero_le _, Nat.zero_le _⟩) (fun H locs hw => ?_)
        refine fold_i (y := ((8 : Int32))) (by first | rfl | (simp [pM, pJ, upM, upJ, upM_r, tk_M, tk_K, tk_0, tk_1, tk_2, tk_3, tk_4, tk_5, tk_6, tk_7, tk_8, tk_9, tk_10, tk_o, ms_0_0, ms_0_1, ms_0_2, ms_0_3, ms_0_4, ms_0_5, ms_0_6, ms_0_7, ms_0_8, ms_0_9, ms_0_10, ms_1_0, ms_1_1, ms_1_2, ms_1_3, ms_1_4, ms_1_5, ms_1_6, ms_1_7, ms_1_8, ms_1_9, ms_1_10, ms_w, ms_r, ms_d, ms_M, ms_6, ms_K, pC_row]; done) | (simp (disch := (first | omega | (simp only [tN, tD, tR, sF]; omega))) only [pM, pJ, upM_s, upM_k, upM_c, upJ_s, upJ_k, upJ_c, tk_M, tk_K, tk_0, tk_1, tk_2, tk_3, tk_4, tk_5, tk_6, tk_7, tk_8, tk_9, tk_10, tk_o, ms_0_0, ms_0_1, ms_0_2, ms_0_3, ms_0_4, ms_0_5, ms_0_6, ms_0_7, ms_0_8, ms_0_9, ms_0_10, ms_1_0, ms_1_1, ms_1_2, ms_1_3, ms_1_4, ms_1_5, ms_1_6, ms_1_7, ms_1_8, ms_1_9, ms_1_10, ms_w, ms_r, ms_d, ms_M, ms_6, ms_K, pC_row]; done) | rfl) ?_
        refine lv_iadd hx hb dX8_reads_94 ?_
        refine fold_i (show (20 + 8 : Int32) = 28 from by decide) ?_
        refine lv_iload_n hx hb dX8_reads_95 rfl (lv_at hl 1 rfl) ?_
        refine c_v hw (run_V (As := [.int (nI (a.toNatClampNeg)), .int 28, .int (sp_X8_degrees (μ.1 8)  a.toNatClampNeg)]) (rest := []) (np := 3) hf hw (kn_X8_put l E _  a.toNatClampNeg 28 (sp_X8_degrees (μ.1 8)  a.toNatClampNeg)  (show a.toNatClampNeg < 6 from c1ab) (show 28 < 29 from (by decide))) ⟨gl_V q335 q336 q337 q5 q338, by decide +kernel⟩ ⟨rfl, rfl, Nat.le_of_ble_eq_true rfl, Nat.le_of_ble_eq_true rfl⟩ (by decide) (c_R E _) rfl rfl hl.1 rfl (Nat.le_of_ble_eq_true rfl) dX8_reads_96 ⟨Nat.zero_le _, Nat.zero_le _⟩) (fun H locs hw => ?_)
        refine lv_aload_n hx hb dX8_reads_99 rfl (lv_at hl 2 rfl) ?_
        refine lv_iload_n hx hb dX8_reads_100 rfl (lv_at hl 3 rfl) ?_
        refine fold_i (show a = nI (a.toNatClampNeg) from c1a.1) ?_
        refine lv_bipush (v := 19) hx hb dX8_reads_101 (by decide) ?_
        refine lv_aload_n hx hb dX8_reads_103 rfl (lv_at hl 2 rfl) ?_
        refine lv_iload_n hx hb dX8_reads_104 rfl (lv_at hl 3 rfl) ?_
        refine fold_i (show a = nI (a.toNatClampNeg) from c1a.1) ?_
        refine lv_bipush (v := 19) hx hb dX8_reads_105 (by decide) ?_
        refine c_iR hw (run_V (As := [.int (nI (a.toNatClampNeg)), .int 19]) (rest := [.int 19, .int (nI (a.toNatClampNeg)), .ref (E.1 (232))]) (np := 2) hf hw (kn_X8_of l E _  a.toNatClampNeg 19  (show a.toNatClampNeg < 6 from c1ab) (show 19 < 29 from (by decide))) ⟨gl_V q227 q228 q229 q5 q230, by decide +kernel⟩ ⟨rfl, rfl, Nat.le_of_ble_eq_true rfl, Nat.le_of_ble_eq_true rfl⟩ (by decide) (c_R E _) rfl rfl hl.1 rfl (Nat.le_of_ble_eq_true rfl) dX8_reads_107 ⟨Nat.zero_le _, Nat.zero_le _⟩) (fun H locs hw => ?_)
        refine fold_i (y := ((8 : Int32))) (by first | rfl | (simp [pM, pJ, upM, upJ, upM_r, tk_M, tk_K, tk_0, tk_1, tk_2, tk_3, tk_4, tk_5, tk_6, tk_7, tk_8, tk_9, tk_10, tk_o, ms_0_0, ms_0_1, ms_0_2, ms_0_3, ms_0_4, ms_0_5, ms_0_6, ms_0_7, ms_0_8, ms_0_9, ms_0_10, ms_1_0, ms_1_1, ms_1_2, ms_1_3, ms_1_4, ms_1_5, ms_1_6, ms_1_7, ms_1_8, ms_1_9, ms_1_10, ms_w, ms_r, ms_d, ms_M, ms_6, ms_K, pC_row]; done) | (simp (disch := (first | omega | (simp only [tN, tD, tR, sF]; omega))) only [pM, pJ, upM_s, upM_k, upM_c, upJ_s, upJ_k, upJ_c, tk_M, tk_K, tk_0, tk_1, tk_2, tk_3, tk_4, tk_5, tk_6, tk_7, tk_8, tk_9, tk_10, tk_o, ms_0_0, ms_0_1, ms_0_2, ms_0_3, ms_0_4, ms_0_5, ms_0_6, ms_0_7, ms_0_8, ms_0_9, ms_0_10, ms_1_0, ms_1_1, ms_1_2, ms_1_3, ms_1_4, ms_1_5, ms_1_6, ms_1_7, ms_1_8, ms_1_9, ms_1_10, ms_w, ms_r, ms_d, ms_M, ms_6, ms_K, pC_row]; done) | rfl) ?_
        refine lv_iconst (v := 1) hx hb dX8_reads_110 (by decide) ?_
        refine lv_iadd hx hb dX8_reads_111 ?_
        refine fold_i (show (8 + 1 : Int32) = 9 from by decide) ?_
        refine c_v hw (run_V (As := [.int (nI (a.toNatClampNeg)), .int 19, .int 9]) (rest := []) (np := 3) hf hw (kn_X8_put l E _  a.toNatClampNeg 19 (9 : Int32)  (show a.toNatClampNeg < 6 from c1ab) (show 19 < 29 from (by decide))) ⟨gl_V q335 q336 q337 q5 q338, by decide +kernel⟩ ⟨rfl, rfl, Nat.le_of_ble_eq_true rfl, Nat.le_of_ble_eq_true rfl⟩ (by decide) (c_R E _) rfl rfl hl.1 rfl (Nat.le_of_ble_eq_true rfl) dX8_reads_112 ⟨Nat.zero_le _, Nat.zero_le _⟩) (fun H locs hw => ?_)
        refine lv_aload_n hx hb dX8_reads_115 rfl (lv_at hl 2 rfl) ?_
        refine lv_iload_n hx hb dX8_reads_116 rfl (lv_at hl 3 rfl) ?_
        refine fold_i (show a = nI (a.toNatClampNeg) from c1a.1) ?_
        refine lv_bipush (v := 18) hx hb dX8_reads_117 (by decide) ?_
        refine lv_aload_n hx hb dX8_reads_119 rfl (lv_at hl 2 rfl) ?_
        refine lv_iload_n hx hb dX8_reads_120 rfl (lv_at hl 3 rfl) ?_
        refine fold_i (show a = nI (a.toNatClampNeg) from c1a.1) ?_
        refine lv_bipush (v := 18) hx hb dX8_reads_121 (by decide) ?_
        refine c_iR hw (run_V (As := [.int (nI (a.toNatClampNeg)), .int 18]) (rest := [.int 18, .int (nI (a.toNatClampNeg)), .ref (E.1 (232))]) (np := 2) hf hw (kn_X8_of l E _  a.toNatClampNeg 18  (show a.toNatClampNeg < 6 from c1ab) (show 18 < 29 from (by decide))) ⟨gl_V q227 q228 q229 q5 q230, by decide +kernel⟩ ⟨rfl, rfl, Nat.le_of_ble_eq_true rfl, Nat.le_of_ble_eq_true rfl⟩ (by decide) (c_R E _) rfl rfl hl.1 rfl (Nat.le_of_ble_eq_true rfl) dX8_reads_123 ⟨Nat.zero_le _, Nat.zero_le _⟩) (fun H locs hw => ?_)
        refine fold_i (y := (μ.1 8 (85 + 29 * a.toNatClampNeg + 18))) (by first | rfl | (simp [pM, pJ, upM, upJ, upM_r, tk_M, tk_K, tk_0, tk_1, tk_2, tk_3, tk_4, tk_5, tk_6, tk_7, tk_8, tk_9, tk_10, tk_o, ms_0_0, ms_0_1, ms_0_2, ms_0_3, ms_0_4, ms_0_5, ms_0_6, ms_0_7, ms_0_8, ms_0_9, ms_0_10, ms_1_0, ms_1_1, ms_1_2, ms_1_3, ms_1_4, ms_1_5, ms_1_6, ms_1_7, ms_1_8, ms_1_9, ms_1_10, ms_w, ms_r, ms_d, ms_M, ms_6, ms_K, pC_row]; done) | (simp (disch := (first | omega | (simp only [tN, tD, tR, sF]; omega))) only [pM, pJ, upM_s, upM_k, upM_c, upJ_s, upJ_k, upJ_c, tk_M, tk_K, tk_0, tk_1, tk_2, tk_3, tk_4, tk_5, tk_6, tk_7, tk_8, tk_9, tk_10, tk_o, ms_0_0, ms_0_1, ms_0_2, ms_0_3, ms_0_4, ms_0_5, ms_0_6, ms_0_7, ms_0_8, ms_0_9, ms_0_10, ms_1_0, ms_1_1, ms_1_2, ms_1_3, ms_1_4, ms_1_5, ms_1_6, ms_1_7, ms_1_8, ms_1_9, ms_1_10, ms_w, ms_r, ms_d, ms_M, ms_6, ms_K, pC_row]; done) | rfl) ?_
        refine lv_iconst (v := 1) hx hb dX8_reads_126 (by decide) ?_
        refine lv_iadd hx hb dX8_reads_127 ?_
        refine c_v hw (run_V (As := [.int (nI (a.toNatClampNeg)), .int 18, .int ((μ.1 8 (85 + 29 * a.toNatClampNeg + 18)) + 1)]) (rest := []) (np := 3) hf hw (kn_X8_put l E _  a.toNatClampNeg 18 ((μ.1 8 (85 + 29 * a.toNatClampNeg + 18)) + 1)  (show a.toNatClampNeg < 6 from c1ab) (show 18 < 29 from (by decide))) ⟨gl_V q335 q336 q337 q5 q338, by decide +kernel⟩ ⟨rfl, rfl, Nat.le_of_ble_eq_true rfl, Nat.le_of_ble_eq_true rfl⟩ (by decide) (c_R E _) rfl rfl hl.1 rfl (Nat.le_of_ble_eq_true rfl) dX8_reads_128 ⟨Nat.zero_le _, Nat.zero_le _⟩) (fun H locs hw => ?_)
        refine lv_aload_n hx hb dX8_reads_131 rfl (lv_at hl 2 rfl) ?_
        refine lv_iload_n hx hb dX8_reads_132 rfl (lv_at hl 3 rfl) ?_
        refine fold_i (show a = nI (a.toNatClampNeg) from c1a.1) ?_
        refine lv_iload_n hx hb dX8_reads_133 rfl (lv_at hl 1 rfl) ?_
        refine c_v hw (run_V (As := [.int (nI (a.toNatClampNeg)), .int (sp_X8_degrees (μ.1 8)  a.toNatClampNeg)]) (rest := []) (np := 2) hf hw (k_X8_alarms l E _  a.toNatClampNeg (sp_X8_degrees (μ.1 8)  a.toNatClampNeg)  (show a.toNatClampNeg < 6 from c1ab)) ⟨gl_V q789 q790 q791 q5 q792, by decide +kernel⟩ ⟨rfl, rfl, Nat.le_of_ble_eq_true rfl, Nat.le_of_ble_eq_true rfl⟩ (by decide) (c_R E _) rfl rfl hl.1 rfl (Nat.le_of_ble_eq_true rfl) dX8_reads_134 ⟨Nat.zero_le _, Nat.zero_le _⟩) (fun H locs hw => ?_)
        refine lv_iload_n hx hb dX8_reads_137 rfl (lv_at hl 1 rfl) ?_
        exact e_i hf hr hlocks hw rfl ((if_pos c1).trans ((if_pos c2).trans ((if_pos c4).trans rfl))) dX8_reads_138
    · refine lv_ldc hx hb hf.2.2.2.1 (hf.2.2.2.2 _ q202) dX8_reads_19 ?_
      exact e_i hf hr hlocks hw rfl ((if_pos c1).trans ((if_neg c2).trans rfl)) dX8_reads_21
  · replace c1 := (bz_0 _).mp c1
    refine lv_ldc hx hb hf.2.2.2.1 (hf.2.2.2.2 _ q154) dX8_reads_8 ?_
    exact e_i hf hr hlocks hw rfl ((if_neg c1).trans rfl) dX8_reads_10
theorem s7_X8_reads {x : Int32} (μ : Mu)  (a : Int32)  (hh : S7 x μ) : S7 x ((sp_X8_reads μ a).2) := by
  unfold sp_X8_reads
  exact (s7_ite (s7_ite (s7_ite (s7_lf (s7_X8_alarms (pM (pM (pM (pM (pM (pM (pM (pM (pM (pM (pM (pM μ 8 (85 + 29 * a.toNatClampNeg + 20) (μ.1 8 (85 + 29 * a.toNatClampNeg + 21))) 8 (85 + 29 * a.toNatClampNeg + 21) (μ.1 8 (85 + 29 * a.toNatClampNeg + 22))) 8 (85 + 29 * a.toNatClampNeg + 22) (μ.1 8 (85 + 29 * a.toNatClampNeg + 23))) 8 (85 + 29 * a.toNatClampNeg + 23) (μ.1 8 (85 + 29 * a.toNatClampNeg + 24))) 8 (85 + 29 * a.toNatClampNeg + 24) (μ.1 8 (85 + 29 * a.toNatClampNeg + 25))) 8 (85 + 29 * a.toNatClampNeg + 25) (μ.1 8 (85 + 29 * a.toNatClampNeg + 26))) 8 (85 + 29 * a.toNatClampNeg + 26) (μ.1 8 (85 + 29 * a.toNatClampNeg + 27))) 8 (85 + 29 * a.toNatClampNeg + 27) (μ.1 8 (85 + 29 * a.toNatClampNeg + 28))) 8 (85 + 29 * a.toNatClampNeg + 19) (8 : Int32)) 8 (85 + 29 * a.toNatClampNeg + 28) (sp_X8_degrees (μ.1 8)  a.toNatClampNeg)) 8 (85 + 29 * a.toNatClampNeg + 19) (9 : Int32)) 8 (85 + 29 * a.toNatClampNeg + 18) ((μ.1 8 (85 + 29 * a.toNatClampNeg + 18)) + 1)) a.toNatClampNeg (sp_X8_degrees (μ.1 8)  a.toNatClampNeg)  (s7_pM (by decide) (s7_pM (by decide) (s7_pM (by decide) (s7_pM (by decide) (s7_pM (by decide) (s7_pM (by decide) (s7_pM (by decide) (s7_pM (by decide) (s7_pM (by decide) (s7_pM (by decide) (s7_pM (by decide) (s7_pM (by decide) hh)))))))))))))) (s7_lf (s7_X8_alarms (pM (pM (pM μ 8 (85 + 29 * a.toNatClampNeg + (20 + ((μ.1 8 (85 + 29 * a.toNatClampNeg + 19)).toNatClampNeg))) (sp_X8_degrees (μ.1 8)  a.toNatClampNeg)) 8 (85 + 29 * a.toNatClampNeg + 19) (nI ((μ.1 8 (85 + 29 * a.toNatClampNeg + 19)).toNatClampNeg + 1))) 8 (85 + 29 * a.toNatClampNeg + 18) ((μ.1 8 (85 + 29 * a.toNatClampNeg + 18)) + 1)) a.toNatClampNeg (sp_X8_degrees (μ.1 8)  a.toNatClampNeg)  (s7_pM (by decide) (s7_pM (by decide) (s7_pM (by decide) hh)))))) (s7_lf hh)) (s7_lf hh))
def sp_X8_read (μ : Mu)  (a : Int32) : Int32 × Mu :=
  ((sp_X8_acted ((sp_X8_reads (pC μ 11 0 8 0 259)  a).2)  ((sp_X8_reads (pC μ 11 0 8 0 259)  a).1)).1, (sp_X8_acted ((sp_X8_reads (pC μ 11 0 8 0 259)  a).2)  ((sp_X8_reads (pC μ 11 0 8 0 259)  a).1)).2)
set_option maxHeartbeats 4000000 in
set_option maxRecDepth 100000 in
theorem k_X8_read (l : Launch) (E : En) (μ : Mu)  (a : Int32) (hG : RG (μ.1 8)) (hSa : ∀ n, n < (μ.1 8 1).toNatClampNeg → RS (μ.1 8) n) (hst : ni 5 (μ.1 7 0)) : MtI l yX8_read cX8_read 2 .int ({ frames := 12, cells := 0, slots := 0, locals := 294 }) [.ref (E.1 (232)), .int (a)] E μ (sp_X8_read μ a) := by
  refine mt_of (by decide +kernel) (Nat.le_of_ble_eq_true rfl) ?_
  intro p e s m args below meth c ls hf hr hlocks hl hw
  have hx := hf.1
  have hb := hf.2.1
  have hl : lv_has ls 2 [(0, .ref (E.1 (232))), (1, .int (a))] := hl
  have hI := hG.1
  refine lv_aload_n hx hb dX8_read_0 rfl (lv_at hl 0 rfl) ?_
  refine c_v hw (run_V (As := []) (rest := []) (np := 0) hf hw (kn_X8_keeps l E _    ) ⟨gl_V q146 q147 q148 q5 q149, by decide +kernel⟩ ⟨rfl, rfl, Nat.le_of_ble_eq_true rfl, Nat.le_of_ble_eq_true rfl⟩ (by decide) (c_R E _) rfl rfl hl.1 rfl (Nat.le_of_ble_eq_true rfl) dX8_read_1 ⟨Nat.zero_le _, Nat.zero_le _⟩) (fun H locs hw => ?_)
  refine lv_aload_n hx hb dX8_read_4 rfl (lv_at hl 0 rfl) ?_
  refine lv_aload_n hx hb dX8_read_5 rfl (lv_at hl 0 rfl) ?_
  refine lv_iload_n hx hb dX8_read_6 rfl (lv_at hl 1 rfl) ?_
  refine c_i hw (run_V (As := [.int (a)]) (rest := [.ref (E.1 (232))]) (np := 1) hf hw (k_X8_reads l E _  a  (by first | exact hG | (simp only [pC_row (show (8 : Nat) ≠ 11 by decide)]; exact hG)) (by first | exact hSa | (simp only [pC_row (show (8 : Nat) ≠ 11 by decide)]; exact hSa))) ⟨gl_V q785 q786 q787 q5 q788, by decide +kernel⟩ ⟨rfl, rfl, Nat.le_of_ble_eq_true rfl, Nat.le_of_ble_eq_true rfl⟩ (by decide) (c_R E _) rfl rfl hl.1 rfl (Nat.le_of_ble_eq_true rfl) dX8_read_7 ⟨Nat.zero_le _, Nat.zero_le _⟩) (fun H locs hw => ?_)
  refine c_i hw (run_V (As := [.int ((sp_X8_reads (pC μ 11 0 8 0 259)  a).1)]) (rest := []) (np := 1) hf hw (k_X8_acted l E _  ((sp_X8_reads (pC μ 11 0 8 0 259)  a).1)  (s7_ni (x := μ.1 7 0) (s7_X8_reads (pC μ 11 0 8 0 259) a  (s7_pC (by decide) (rfl : S7 (μ.1 7 0) μ))) hst)) ⟨gl_V q150 q151 q152 q5 q153, by decide +kernel⟩ ⟨rfl, rfl, Nat.le_of_ble_eq_true rfl, Nat.le_of_ble_eq_true rfl⟩ (by decide) (c_R E _) rfl rfl hl.1 rfl (Nat.le_of_ble_eq_true rfl) dX8_read_10 ⟨Nat.zero_le _, Nat.zero_le _⟩) (fun H locs hw => ?_)
  exact e_i hf hr hlocks hw rfl rfl dX8_read_13
