/-! ===== the reference: median ===== -/
theorem nI_hf {n : Nat} (h : n < 2 ^ 31) : nI n / 2 = nI (n / 2) := by
  apply Int32.toInt_inj.mp
  rw [Int32.toInt_div, nI_toInt h, nI_toInt (by omega), show (2 : Int32).toInt = 2 by decide, Int.tdiv_eq_ediv_of_nonneg (by omega), I_of _ (by omega)]
  omega
def lp_X8_median_71 (μ : Mu)  (a : Int32) : Nat → Nat → Nat → Int32 → Nat → Mu → Int32 × Mu
  | 0, _, _, _, _, μ1 => (0, μ1)
  | f + 1, mn, k, v, j, μ1 =>
    if (nI j : Int32) ≤ 0 then
      if (nI mn : Int32) ≤ nI (k + 1) then
        if (nI mn : Int32) = 0 then
          ((-2000000004), pM μ1 14 j v)
        else
          ((pM μ1 14 j v).1 14 ((mn - 1) / 2), pM μ1 14 j v)
      else
        lp_X8_median_71 μ a f mn (k + 1) ((μ1).1 8 (85 + 29 * a.toNatClampNeg + ((20 + ((μ.1 8 (85 + 29 * a.toNatClampNeg + 19)).toNatClampNeg) - 1) - (k + 1)))) (k + 1) (pM μ1 14 j v)
    else
      if ((μ1).1 14 (j - 1) : Int32) ≤ v then
        if (nI mn : Int32) ≤ nI (k + 1) then
          if (nI mn : Int32) = 0 then
            ((-2000000004), pM μ1 14 j v)
          else
            ((pM μ1 14 j v).1 14 ((mn - 1) / 2), pM μ1 14 j v)
        else
          lp_X8_median_71 μ a f mn (k + 1) ((μ1).1 8 (85 + 29 * a.toNatClampNeg + ((20 + ((μ.1 8 (85 + 29 * a.toNatClampNeg + 19)).toNatClampNeg) - 1) - (k + 1)))) (k + 1) (pM μ1 14 j v)
      else
        lp_X8_median_71 μ a f mn k v (j - 1) (pM μ1 14 j ((μ1).1 14 (j - 1)))
def sp_X8_median (μ : Mu)  (a : Int32) : Int32 × Mu :=
  if 0 ≤ a ∧ a ≤ (μ.1 8 1) - 1 then
    if (nI ((μ.1 8 (85 + 29 * a.toNatClampNeg + 19)).toNatClampNeg) : Int32) ≤ nI ((μ.1 8 8).toNatClampNeg) then
      if (nI ((μ.1 8 (85 + 29 * a.toNatClampNeg + 19)).toNatClampNeg) : Int32) ≤ 0 then
        if (nI ((μ.1 8 (85 + 29 * a.toNatClampNeg + 19)).toNatClampNeg) : Int32) = 0 then
          ((-2000000004), μ)
        else
          (μ.1 14 (((μ.1 8 (85 + 29 * a.toNatClampNeg + 19)).toNatClampNeg - 1) / 2), μ)
      else
        lp_X8_median_71 μ a 100 ((μ.1 8 (85 + 29 * a.toNatClampNeg + 19)).toNatClampNeg) 0 (μ.1 8 (85 + 29 * a.toNatClampNeg + (20 + ((μ.1 8 (85 + 29 * a.toNatClampNeg + 19)).toNatClampNeg) - 1 - 0))) 0 μ
    else
      if (nI ((μ.1 8 8).toNatClampNeg) : Int32) ≤ 0 then
        if (nI ((μ.1 8 8).toNatClampNeg) : Int32) = 0 then
          ((-2000000004), μ)
        else
          (μ.1 14 (((μ.1 8 8).toNatClampNeg - 1) / 2), μ)
      else
        lp_X8_median_71 μ a 100 ((μ.1 8 8).toNatClampNeg) 0 (μ.1 8 (85 + 29 * a.toNatClampNeg + (20 + ((μ.1 8 (85 + 29 * a.toNatClampNeg + 19)).toNatClampNeg) - 1 - 0))) 0 μ
  else
    ((-2000000001), μ)
set_option maxHeartbeats 4000000 in
set_option maxRecDepth 100000 in
theorem k_X8_median (l : Launch) (E : En) (μ : Mu)  (a : Int32) (hI : RI (μ.1 8)) (hm : ni 10 (μ.1 8 8)) : MtI l yX8_median cX8_median 7 .int ({ frames := 2, cells := 0, slots := 0, locals := 43 }) [.ref (E.1 (232)), .int (a)] E μ (sp_X8_median μ a) := by
  refine mt_of (by decide +kernel) (Nat.le_of_ble_eq_true rfl) ?_
  intro p e s m args below meth c ls hf hr hlocks hl hw
  have hx := hf.1
  have hb := hf.2.1
  have hl : lv_has ls 7 [(0, .ref (E.1 (232))), (1, .int (a))] := hl
  have hm2 := hm.2
  refine lv_aload_n hx hb dX8_median_0 rfl (lv_at hl 0 rfl) ?_
  refine lv_iload_n hx hb dX8_median_1 rfl (lv_at hl 1 rfl) ?_
  refine c_iR hw (run_V (As := [.int (a)]) (rest := []) (np := 1) hf hw (kn_X8_isSensor l E _  a  ) ⟨gl_V q370 q371 q372 q5 q373, by decide +kernel⟩ ⟨rfl, rfl, Nat.le_of_ble_eq_true rfl, Nat.le_of_ble_eq_true rfl⟩ (by decide) (c_R E _) rfl rfl hl.1 rfl (Nat.le_of_ble_eq_true rfl) dX8_median_2 ⟨Nat.zero_le _, Nat.zero_le _⟩) (fun H locs hw => ?_)
  refine lv_if_ne (tgt := 11) hx hb dX8_median_5 (by decide) (fun c1 => ?_) (fun c1 => ?_)
  · replace c1 := (bz_n0 _).mp c1
    have c1a := (ni_of hI.2.1 (by decide) c1)
    have c1ab : a.toNatClampNeg < 6 := Nat.lt_of_lt_of_le c1a.2 (Nat.le_of_lt_succ hI.2.1.2)
    refine lv_aload_n hx hb dX8_median_11 rfl (lv_at hl 0 rfl) ?_
    refine lv_iload_n hx hb dX8_median_12 rfl (lv_at hl 1 rfl) ?_
    refine fold_i (show a = nI (a.toNatClampNeg) from c1a.1) ?_
    refine lv_bipush (v := 19) hx hb dX8_median_13 (by decide) ?_
    refine c_iR hw (run_V (As := [.int (nI (a.toNatClampNeg)), .int 19]) (rest := []) (np := 2) hf hw (kn_X8_of l E _  a.toNatClampNeg 19  (show a.toNatClampNeg < 6 from c1ab) (show 19 < 29 from (by decide))) ⟨gl_V q227 q228 q229 q5 q230, by decide +kernel⟩ ⟨rfl, rfl, Nat.le_of_ble_eq_true rfl, Nat.le_of_ble_eq_true rfl⟩ (by decide) (c_R E _) rfl rfl hl.1 rfl (Nat.le_of_ble_eq_true rfl) dX8_median_15 ⟨Nat.zero_le _, Nat.zero_le _⟩) (fun H locs hw => ?_)
    have hb2 := ((hI).2.2.2 _ c1ab).2.1.2
    refine fold_i (show μ.1 8 (85 + 29 * a.toNatClampNeg + 19) = nI ((μ.1 8 (85 + 29 * a.toNatClampNeg + 19)).toNatClampNeg) from ((hI).2.2.2 _ c1ab).2.1.1) ?_
    refine lv_istore_n (lv' := [(2, .int (nI ((μ.1 8 (85 + 29 * a.toNatClampNeg + 19)).toNatClampNeg))), (0, .ref (E.1 (232))), (1, .int (a))]) hx hb dX8_median_18 rfl hl (by decide) rfl (fun ls hl => ?_)
    refine lv_aload_n hx hb dX8_median_19 rfl (lv_at hl 1 rfl) ?_
    refine g_f hw hf (by decide) (c_R E _) rfl inlX8 0 (by decide) rfl q90 rfl dX8_median_20 ?_
    refine lv_bipush (v := 8) hx hb dX8_median_23 (by decide) ?_
    refine g_a hw hf (by decide) (c_Rs E _) (vp_lit 8 259 (by decide) (by decide)) (tr_at (y := 8) (by decide) (by decide)) dX8_median_25 ?_
    have hb3 := hm.2
    refine fold_i (show μ.1 8 8 = nI ((μ.1 8 8).toNatClampNeg) from hm.1) ?_
    refine lv_iload_n hx hb dX8_median_26 rfl (lv_at hl 0 rfl) ?_
    refine lv_icmp_ge (tgt := 40) hx hb dX8_median_27 (by decide) (fun c4 => ?_) (fun c4 => ?_)
    · have c4n : ((μ.1 8 (85 + 29 * a.toNatClampNeg + 19)).toNatClampNeg) ≤ ((μ.1 8 8).toNatClampNeg) := by have q := (nI_leI (a := ((μ.1 8 (85 + 29 * a.toNatClampNeg + 19)).toNatClampNeg)) (b := ((μ.1 8 8).toNatClampNeg)) (by omega) (by omega)); first | exact q.mp c4 | exact fun z => c4 (q.mpr z)
      refine lv_iload_n hx hb dX8_median_40 rfl (lv_at hl 0 rfl) ?_
      refine lv_istore_n (lv' := [(3, .int (nI ((μ.1 8 (85 + 29 * a.toNatClampNeg + 19)).toNatClampNeg))), (2, .int (nI ((μ.1 8 (85 + 29 * a.toNatClampNeg + 19)).toNatClampNeg))), (0, .ref (E.1 (232))), (1, .int (a))]) hx hb dX8_median_41 rfl hl (by decide) rfl (fun ls hl => ?_)
      refine lv_iconst (v := 0) hx hb dX8_median_42 (by decide) ?_
      refine lv_istore (lv' := [(4, .int 0), (3, .int (nI ((μ.1 8 (85 + 29 * a.toNatClampNeg + 19)).toNatClampNeg))), (2, .int (nI ((μ.1 8 (85 + 29 * a.toNatClampNeg + 19)).toNatClampNeg))), (0, .ref (E.1 (232))), (1, .int (a))]) hx hb dX8_median_43 hl (by decide) rfl (fun ls hl => ?_)
      refine lv_iload hx hb dX8_median_45 (lv_at hl 0 rfl) ?_
      refine lv_iload_n hx hb dX8_median_47 rfl (lv_at hl 1 rfl) ?_
      refine lv_icmp_ge (tgt := 127) hx hb dX8_median_48 (by decide) (fun c5 => ?_) (fun c5 => ?_)
      · have c5n : ((μ.1 8 (85 + 29 * a.toNatClampNeg + 19)).toNatClampNeg) ≤ 0 := by have q := (nI_leI (a := ((μ.1 8 (85 + 29 * a.toNatClampNeg + 19)).toNatClampNeg)) (b := 0) (by omega) (by omega)); first | exact q.mp c5 | exact fun z => c5 (q.mpr z)
        refine lv_iload_n hx hb dX8_median_127 rfl (lv_at hl 1 rfl) ?_
        refine lv_if_ne (tgt := 136) hx hb dX8_median_128 (by decide) (fun c6 => ?_) (fun c6 => ?_)
        · have c6n : ¬ ((μ.1 8 (85 + 29 * a.toNatClampNeg + 19)).toNatClampNeg) = 0 := by have q := (nI_eq (a := ((μ.1 8 (85 + 29 * a.toNatClampNeg + 19)).toNatClampNeg)) (b := 0) (by omega) (by omega)); first | exact q.mp c6 | exact fun z => c6 (q.mpr z)
          refine lv_aload_n hx hb dX8_median_136 rfl (lv_at hl 3 rfl) ?_
          refine g_f hw hf (by decide) (c_R E _) rfl inlX8 10 (by decide) rfl q96 rfl dX8_median_137 ?_
          refine lv_iload_n hx hb dX8_median_140 rfl (lv_at hl 1 rfl) ?_
          refine lv_iconst (v := 1) hx hb dX8_median_141 (by decide) ?_
          refine lv_isub hx hb dX8_median_142 ?_
          refine fold_i (show nI ((μ.1 8 (85 + 29 * a.toNatClampNeg + 19)).toNatClampNeg) - 1 = nI ((μ.1 8 (85 + 29 * a.toNatClampNeg + 19)).toNatClampNeg - 1) from pk_sub (a := (μ.1 8 (85 + 29 * a.toNatClampNeg + 19)).toNatClampNeg) (b := 1) (by omega)) ?_
          refine lv_iconst (v := 2) hx hb dX8_median_143 (by decide) ?_
          refine lv_idiv hx hb dX8_median_144 (by decide) ?_
          refine fold_i (show nI ((μ.1 8 (85 + 29 * a.toNatClampNeg + 19)).toNatClampNeg - 1) / 2 = nI (((μ.1 8 (85 + 29 * a.toNatClampNeg + 19)).toNatClampNeg - 1) / 2) from nI_hf (by omega)) ?_
          refine g_a hw hf (by decide) (c_Ro E _) (vp_in_nI (show ((μ.1 8 (85 + 29 * a.toNatClampNeg + 19)).toNatClampNeg - 1) / 2 < 9 from (by omega)) (by decide)) (tr_at (y := ((μ.1 8 (85 + 29 * a.toNatClampNeg + 19)).toNatClampNeg - 1) / 2) (by omega) (nI_clamp (Nat.lt_trans (show ((μ.1 8 (85 + 29 * a.toNatClampNeg + 19)).toNatClampNeg - 1) / 2 < 9 from (by omega)) (by decide)))) dX8_median_145 ?_
          exact e_i hf hr hlocks hw rfl ((if_pos c1).trans ((if_pos c4).trans ((if_pos c5).trans ((if_neg c6).trans rfl)))) dX8_median_146
        · have c6n : ((μ.1 8 (85 + 29 * a.toNatClampNeg + 19)).toNatClampNeg) = 0 := by have q := (nI_eq (a := ((μ.1 8 (85 + 29 * a.toNatClampNeg + 19)).toNatClampNeg)) (b := 0) (by omega) (by omega)); first | exact q.mp c6 | exact fun z => c6 (q.mpr z)
          refine lv_ldc hx hb hf.2.2.2.1 (hf.2.2.2.2 _ q242) dX8_median_131 ?_
          refine lv_goto (tgt := 146) hx hb dX8_median_133 (by decide) ?_
          exact e_i hf hr hlocks hw rfl ((if_pos c1).trans ((if_pos c4).trans ((if_pos c5).trans ((if_pos c6).trans rfl)))) dX8_median_146
      · have c5n : ¬ ((μ.1 8 (85 + 29 * a.toNatClampNeg + 19)).toNatClampNeg) ≤ 0 := by have q := (nI_leI (a := ((μ.1 8 (85 + 29 * a.toNatClampNeg + 19)).toNatClampNeg)) (b := 0) (by omega) (by omega)); first | exact q.mp c5 | exact fun z => c5 (q.mpr z)
        refine lv_aload_n hx hb dX8_median_51 rfl (lv_at hl 3 rfl) ?_
        refine lv_iload_n hx hb dX8_median_52 rfl (lv_at hl 4 rfl) ?_
        refine fold_i (show a = nI (a.toNatClampNeg) from c1a.1) ?_
        refine lv_bipush (v := 20) hx hb dX8_median_53 (by decide) ?_
        refine lv_iload_n hx hb dX8_median_55 rfl (lv_at hl 2 rfl) ?_
        refine lv_iadd hx hb dX8_median_56 ?_
        refine fold_i (show (20 : Int32) + nI ((μ.1 8 (85 + 29 * a.toNatClampNeg + 19)).toNatClampNeg) = nI (20 + ((μ.1 8 (85 + 29 * a.toNatClampNeg + 19)).toNatClampNeg)) from nI_add (20) ((μ.1 8 (85 + 29 * a.toNatClampNeg + 19)).toNatClampNeg)) ?_
        refine lv_iconst (v := 1) hx hb dX8_median_57 (by decide) ?_
        refine lv_isub hx hb dX8_median_58 ?_
        refine fold_i (show nI (20 + ((μ.1 8 (85 + 29 * a.toNatClampNeg + 19)).toNatClampNeg)) - 1 = nI (20 + ((μ.1 8 (85 + 29 * a.toNatClampNeg + 19)).toNatClampNeg) - 1) from pk_sub (a := 20 + ((μ.1 8 (85 + 29 * a.toNatClampNeg + 19)).toNatClampNeg)) (b := 1) (by omega)) ?_
        refine lv_iload hx hb dX8_median_59 (lv_at hl 0 rfl) ?_
        refine lv_isub hx hb dX8_median_61 ?_
        refine fold_i (show nI (20 + ((μ.1 8 (85 + 29 * a.toNatClampNeg + 19)).toNatClampNeg) - 1) - 0 = nI (20 + ((μ.1 8 (85 + 29 * a.toNatClampNeg + 19)).toNatClampNeg) - 1 - 0) from pk_sub (a := 20 + ((μ.1 8 (85 + 29 * a.toNatClampNeg + 19)).toNatClampNeg) - 1) (b := 0) (by omega)) ?_
        refine c_iR hw (run_V (As := [.int (nI (a.toNatClampNeg)), .int (nI (20 + ((μ.1 8 (85 + 29 * a.toNatClampNeg + 19)).toNatClampNeg) - 1 - 0))]) (rest := []) (np := 2) hf hw (kn_X8_of l E _  a.toNatClampNeg (20 + ((μ.1 8 (85 + 29 * a.toNatClampNeg + 19)).toNatClampNeg) - 1 - 0)  (show a.toNatClampNeg < 6 from c1ab) (show 20 + ((μ.1 8 (85 + 29 * a.toNatClampNeg + 19)).toNatClampNeg) - 1 - 0 < 29 from (by omega))) ⟨gl_V q227 q228 q229 q5 q230, by decide +kernel⟩ ⟨rfl, rfl, Nat.le_of_ble_eq_true rfl, Nat.le_of_ble_eq_true rfl⟩ (by decide) (c_R E _) rfl rfl hl.1 rfl (Nat.le_of_ble_eq_true rfl) dX8_median_62 ⟨Nat.zero_le _, Nat.zero_le _⟩) (fun H locs hw => ?_)
        refine lv_istore (lv' := [(5, .int ((μ.1 8 (85 + 29 * a.toNatClampNeg + (20 + ((μ.1 8 (85 + 29 * a.toNatClampNeg + 19)).toNatClampNeg) - 1 - 0))))), (4, .int 0), (3, .int (nI ((μ.1 8 (85 + 29 * a.toNatClampNeg + 19)).toNatClampNeg))), (2, .int (nI ((μ.1 8 (85 + 29 * a.toNatClampNeg + 19)).toNatClampNeg))), (0, .ref (E.1 (232))), (1, .int (a))]) hx hb dX8_median_65 hl (by decide) rfl (fun ls hl => ?_)
        refine lv_iload hx hb dX8_median_67 (lv_at hl 1 rfl) ?_
        refine lv_istore (lv' := [(6, .int 0), (5, .int ((μ.1 8 (85 + 29 * a.toNatClampNeg + (20 + ((μ.1 8 (85 + 29 * a.toNatClampNeg + 19)).toNatClampNeg) - 1 - 0))))), (4, .int 0), (3, .int (nI ((μ.1 8 (85 + 29 * a.toNatClampNeg + 19)).toNatClampNeg))), (2, .int (nI ((μ.1 8 (85 + 29 * a.toNatClampNeg + 19)).toNatClampNeg))), (0, .ref (E.1 (232))), (1, .int (a))]) hx hb dX8_median_69 hl (by decide) rfl (fun ls hl => ?_)
        have key_71 : ∀ (f : Nat) (mn : Nat) (k : Nat) (v : Int32) (j : Nat) (μ1 : Mu), 100 + j ≤ 11 * k + f → k < mn ∧ j ≤ k → mn ≤ (μ.1 8 (85 + 29 * a.toNatClampNeg + 19)).toNatClampNeg → (μ.1 8 (85 + 29 * a.toNatClampNeg + 19)).toNatClampNeg < 10 → sp_X8_median μ a = lp_X8_median_71 μ a f mn k v j μ1 → ∀ (ls : Array Slot) (H : Heap) (locs : List Loc), lv_has ls 7 [(0, .ref (E.1 (232))), (1, .int (a)), (2, .int (nI ((μ.1 8 (85 + 29 * a.toNatClampNeg + 19)).toNatClampNeg))), (3, .int (nI mn)), (4, .int (nI k)), (5, .int (v)), (6, .int (nI j))] → Wk E μ1 s H locs → W p l e ({ frames := 2, cells := 0, slots := 0, locals := 43 }) s m args below meth c H locs 0 0 (MQ below (va_Qi (fun r u => r = ((sp_X8_median μ a)).1 ∧ u = ((sp_X8_median μ a)).2) (fun u t => WdU E u t) (inE E)) args s 0 0 (inE E)) (F0 m 71 ls []) := by
          intro f
          induction f with
          | zero => intro mn k v j μ1 h1 h2 h3 h4 hq ls H locs hl hw; exfalso; omega
          | succ f ih =>
            intro mn k v j μ1 h1 h2 h3 h4 hq ls H locs hl hw
            refine lv_iload hx hb dX8_median_71 (lv_at hl 6 rfl) ?_
            refine lv_if_le (tgt := 112) hx hb dX8_median_73 (by decide) (fun c7 => ?_) (fun c7 => ?_)
            · have c7n : j ≤ 0 := by have q := (nI_leI (a := j) (b := 0) (by omega) (by omega)); first | exact q.mp c7 | exact fun z => c7 (q.mpr z)
              refine lv_aload_n hx hb dX8_median_112 rfl (lv_at hl 0 rfl) ?_
              refine g_f hw hf (by decide) (c_R E _) rfl inlX8 10 (by decide) rfl q96 rfl dX8_median_113 ?_
              refine lv_iload hx hb dX8_median_116 (lv_at hl 6 rfl) ?_
              refine lv_iload hx hb dX8_median_118 (lv_at hl 5 rfl) ?_
              refine p_a hw hf (by decide) (c_Ro E _) (vp_in_nI (show j < 9 from (by omega)) (by decide)) (by rw [show (nI j).toNatClampNeg = j from (nI_clamp (Nat.lt_trans (show j < 9 from (by omega)) (by decide)))]; exact (s_Ro E _ (by omega) _)) dX8_median_120 (fun H locs hw => ?_)
              refine lv_iinc (v := nI (k + 1)) (lv' := [(4, .int (nI (k + 1))), (0, .ref (E.1 (232))), (1, .int (a)), (2, .int (nI ((μ.1 8 (85 + 29 * a.toNatClampNeg + 19)).toNatClampNeg))), (3, .int (nI mn)), (5, .int (v)), (6, .int (nI j))]) hx hb dX8_median_121 hl (k := 4) rfl (nI_1 _) (by decide) rfl (fun ls hl => ?_)
              refine lv_goto (tgt := 45) hx hb dX8_median_124 (by decide) ?_
              refine lv_iload hx hb dX8_median_45 (lv_at hl 0 rfl) ?_
              refine lv_iload_n hx hb dX8_median_47 rfl (lv_at hl 4 rfl) ?_
              refine lv_icmp_ge (tgt := 127) hx hb dX8_median_48 (by decide) (fun c8 => ?_) (fun c8 => ?_)
              · have c8n : mn ≤ (k + 1) := by have q := (nI_leI (a := mn) (b := (k + 1)) (by omega) (by omega)); first | exact q.mp c8 | exact fun z => c8 (q.mpr z)
                refine lv_iload_n hx hb dX8_median_127 rfl (lv_at hl 4 rfl) ?_
                refine lv_if_ne (tgt := 136) hx hb dX8_median_128 (by decide) (fun c9 => ?_) (fun c9 => ?_)
                · have c9n : ¬ mn = 0 := by have q := (nI_eq (a := mn) (b := 0) (by omega) (by omega)); first | exact q.mp c9 | exact fun z => c9 (q.mpr z)
                  refine lv_aload_n hx hb dX8_median_136 rfl (lv_at hl 1 rfl) ?_
                  refine g_f hw hf (by decide) (c_R E _) rfl inlX8 10 (by decide) rfl q96 rfl dX8_median_137 ?_
                  refine lv_iload_n hx hb dX8_median_140 rfl (lv_at hl 4 rfl) ?_
                  refine lv_iconst (v := 1) hx hb dX8_median_141 (by decide) ?_
                  refine lv_isub hx hb dX8_median_142 ?_
                  refine fold_i (show nI (mn) - 1 = nI (mn - 1) from pk_sub (a := mn) (b := 1) (by omega)) ?_
                  refine lv_iconst (v := 2) hx hb dX8_median_143 (by decide) ?_
                  refine lv_idiv hx hb dX8_median_144 (by decide) ?_
                  refine fold_i (show nI (mn - 1) / 2 = nI ((mn - 1) / 2) from nI_hf (by omega)) ?_
                  refine g_a hw hf (by decide) (c_Ro E _) (vp_in_nI (show (mn - 1) / 2 < 9 from (by omega)) (by decide)) (tr_at (y := (mn - 1) / 2) (by omega) (nI_clamp (Nat.lt_trans (show (mn - 1) / 2 < 9 from (by omega)) (by decide)))) dX8_median_145 ?_
                  exact e_i hf hr hlocks hw rfl ((hq).trans ((if_pos c7).trans ((if_pos c8).trans ((if_neg c9).trans rfl)))) dX8_median_146
                · have c9n : mn = 0 := by have q := (nI_eq (a := mn) (b := 0) (by omega) (by omega)); first | exact q.mp c9 | exact fun z => c9 (q.mpr z)
                  refine lv_ldc hx hb hf.2.2.2.1 (hf.2.2.2.2 _ q242) dX8_median_131 ?_
                  refine lv_goto (tgt := 146) hx hb dX8_median_133 (by decide) ?_
                  exact e_i hf hr hlocks hw rfl ((hq).trans ((if_pos c7).trans ((if_pos c8).trans ((if_pos c9).trans rfl)))) dX8_median_146
              · have c8n : ¬ mn ≤ (k + 1) := by have q := (nI_leI (a := mn) (b := (k + 1)) (by omega) (by omega)); first | exact q.mp c8 | exact fun z => c8 (q.mpr z)
                refine lv_aload_n hx hb dX8_median_51 rfl (lv_at hl 1 rfl) ?_
                refine lv_iload_n hx hb dX8_median_52 rfl (lv_at hl 2 rfl) ?_
                refine fold_i (show a = nI (a.toNatClampNeg) from c1a.1) ?_
                refine lv_bipush (v := 20) hx hb dX8_median_53 (by decide) ?_
                refine lv_iload_n hx hb dX8_median_55 rfl (lv_at hl 3 rfl) ?_
                refine lv_iadd hx hb dX8_median_56 ?_
                refine fold_i (show (20 : Int32) + nI ((μ.1 8 (85 + 29 * a.toNatClampNeg + 19)).toNatClampNeg) = nI (20 + ((μ.1 8 (85 + 29 * a.toNatClampNeg + 19)).toNatClampNeg)) from nI_add (20) ((μ.1 8 (85 + 29 * a.toNatClampNeg + 19)).toNatClampNeg)) ?_
                refine lv_iconst (v := 1) hx hb dX8_median_57 (by decide) ?_
                refine lv_isub hx hb dX8_median_58 ?_
                refine fold_i (show nI (20 + ((μ.1 8 (85 + 29 * a.toNatClampNeg + 19)).toNatClampNeg)) - 1 = nI (20 + ((μ.1 8 (85 + 29 * a.toNatClampNeg + 19)).toNatClampNeg) - 1) from pk_sub (a := 20 + ((μ.1 8 (85 + 29 * a.toNatClampNeg + 19)).toNatClampNeg)) (b := 1) (by omega)) ?_
                refine lv_iload hx hb dX8_median_59 (lv_at hl 0 rfl) ?_
                refine lv_isub hx hb dX8_median_61 ?_
                refine fold_i (show nI (20 + ((μ.1 8 (85 + 29 * a.toNatClampNeg + 19)).toNatClampNeg) - 1) - nI (k + 1) = nI ((20 + ((μ.1 8 (85 + 29 * a.toNatClampNeg + 19)).toNatClampNeg) - 1) - (k + 1)) from pk_sub (a := 20 + ((μ.1 8 (85 + 29 * a.toNatClampNeg + 19)).toNatClampNeg) - 1) (b := k + 1) (by omega)) ?_
                refine c_iR hw (run_V (As := [.int (nI (a.toNatClampNeg)), .int (nI ((20 + ((μ.1 8 (85 + 29 * a.toNatClampNeg + 19)).toNatClampNeg) - 1) - (k + 1)))]) (rest := []) (np := 2) hf hw (kn_X8_of l E _  a.toNatClampNeg ((20 + ((μ.1 8 (85 + 29 * a.toNatClampNeg + 19)).toNatClampNeg) - 1) - (k + 1))  (show a.toNatClampNeg < 6 from c1ab) (show (20 + ((μ.1 8 (85 + 29 * a.toNatClampNeg + 19)).toNatClampNeg) - 1) - (k + 1) < 29 from (by omega))) ⟨gl_V q227 q228 q229 q5 q230, by decide +kernel⟩ ⟨rfl, rfl, Nat.le_of_ble_eq_true rfl, Nat.le_of_ble_eq_true rfl⟩ (by decide) (c_R E _) rfl rfl hl.1 rfl (Nat.le_of_ble_eq_true rfl) dX8_median_62 ⟨Nat.zero_le _, Nat.zero_le _⟩) (fun H locs hw => ?_)
                refine fold_i (y := ((μ1).1 8 (85 + 29 * a.toNatClampNeg + ((20 + ((μ.1 8 (85 + 29 * a.toNatClampNeg + 19)).toNatClampNeg) - 1) - (k + 1))))) (by first | rfl | (simp [pM, pJ, upM, upJ, upM_r, tk_M, tk_K, tk_0, tk_1, tk_2, tk_3, tk_4, tk_5, tk_6, tk_7, tk_8, tk_9, tk_10, tk_o, ms_0_0, ms_0_1, ms_0_2, ms_0_3, ms_0_4, ms_0_5, ms_0_6, ms_0_7, ms_0_8, ms_0_9, ms_0_10, ms_1_0, ms_1_1, ms_1_2, ms_1_3, ms_1_4, ms_1_5, ms_1_6, ms_1_7, ms_1_8, ms_1_9, ms_1_10, ms_w, ms_r, ms_d, ms_M, ms_6, ms_K, pC_row]; done) | (simp (disch := (first | omega | (simp only [tN, tD, tR, sF]; omega))) only [pM, pJ, upM_s, upM_k, upM_c, upJ_s, upJ_k, upJ_c, tk_M, tk_K, tk_0, tk_1, tk_2, tk_3, tk_4, tk_5, tk_6, tk_7, tk_8, tk_9, tk_10, tk_o, ms_0_0, ms_0_1, ms_0_2, ms_0_3, ms_0_4, ms_0_5, ms_0_6, ms_0_7, ms_0_8, ms_0_9, ms_0_10, ms_1_0, ms_1_1, ms_1_2, ms_1_3, ms_1_4, ms_1_5, ms_1_6, ms_1_7, ms_1_8, ms_1_9, ms_1_10, ms_w, ms_r, ms_d, ms_M, ms_6, ms_K, pC_row]; done) | rfl) ?_
                refine lv_istore (lv' := [(5, .int (((μ1).1 8 (85 + 29 * a.toNatClampNeg + ((20 + ((μ.1 8 (85 + 29 * a.toNatClampNeg + 19)).toNatClampNeg) - 1) - (k + 1)))))), (4, .int (nI (k + 1))), (0, .ref (E.1 (232))), (1, .int (a)), (2, .int (nI ((μ.1 8 (85 + 29 * a.toNatClampNeg + 19)).toNatClampNeg))), (3, .int (nI mn)), (6, .int (nI j))]) hx hb dX8_median_65 hl (by decide) rfl (fun ls hl => ?_)
                refine lv_iload hx hb dX8_median_67 (lv_at hl 1 rfl) ?_
                refine lv_istore (lv' := [(6, .int (nI (k + 1))), (5, .int (((μ1).1 8 (85 + 29 * a.toNatClampNeg + ((20 + ((μ.1 8 (85 + 29 * a.toNatClampNeg + 19)).toNatClampNeg) - 1) - (k + 1)))))), (4, .int (nI (k + 1))), (0, .ref (E.1 (232))), (1, .int (a)), (2, .int (nI ((μ.1 8 (85 + 29 * a.toNatClampNeg + 19)).toNatClampNeg))), (3, .int (nI mn))]) hx hb dX8_median_69 hl (by decide) rfl (fun ls hl => ?_)
                exact ih mn (k + 1) ((μ1).1 8 (85 + 29 * a.toNatClampNeg + ((20 + ((μ.1 8 (85 + 29 * a.toNatClampNeg + 19)).toNatClampNeg) - 1) - (k + 1)))) (k + 1) (pM μ1 14 j v) (by omega) (by omega) (by omega) (by omega) (((hq).trans ((if_pos c7).trans ((if_neg c8).trans rfl)))) _ _ _ (lv_sub hl [3, 4, 5, 6, 2, 1, 0] rfl) hw
            · have c7n : ¬ j ≤ 0 := by have q := (nI_leI (a := j) (b := 0) (by omega) (by omega)); first | exact q.mp c7 | exact fun z => c7 (q.mpr z)
              refine lv_aload_n hx hb dX8_median_76 rfl (lv_at hl 0 rfl) ?_
              refine g_f hw hf (by decide) (c_R E _) rfl inlX8 10 (by decide) rfl q96 rfl dX8_median_77 ?_
              refine lv_iload hx hb dX8_median_80 (lv_at hl 6 rfl) ?_
              refine lv_iconst (v := 1) hx hb dX8_median_82 (by decide) ?_
              refine lv_isub hx hb dX8_median_83 ?_
              refine fold_i (show nI (j) - 1 = nI (j - 1) from pk_sub (a := j) (b := 1) (by omega)) ?_
              refine g_a hw hf (by decide) (c_Ro E _) (vp_in_nI (show j - 1 < 9 from (by omega)) (by decide)) (tr_at (y := j - 1) (by omega) (nI_clamp (Nat.lt_trans (show j - 1 < 9 from (by omega)) (by decide)))) dX8_median_84 ?_
              refine lv_iload hx hb dX8_median_85 (lv_at hl 5 rfl) ?_
              refine lv_icmp_le (tgt := 112) hx hb dX8_median_87 (by decide) (fun c10 => ?_) (fun c10 => ?_)
              · refine lv_aload_n hx hb dX8_median_112 rfl (lv_at hl 0 rfl) ?_
                refine g_f hw hf (by decide) (c_R E _) rfl inlX8 10 (by decide) rfl q96 rfl dX8_median_113 ?_
                refine lv_iload hx hb dX8_median_116 (lv_at hl 6 rfl) ?_
                refine lv_iload hx hb dX8_median_118 (lv_at hl 5 rfl) ?_
                refine p_a hw hf (by decide) (c_Ro E _) (vp_in_nI (show j < 9 from (by omega)) (by decide)) (by rw [show (nI j).toNatClampNeg = j from (nI_clamp (Nat.lt_trans (show j < 9 from (by omega)) (by decide)))]; exact (s_Ro E _ (by omega) _)) dX8_median_120 (fun H locs hw => ?_)
                refine lv_iinc (v := nI (k + 1)) (lv' := [(4, .int (nI (k + 1))), (0, .ref (E.1 (232))), (1, .int (a)), (2, .int (nI ((μ.1 8 (85 + 29 * a.toNatClampNeg + 19)).toNatClampNeg))), (3, .int (nI mn)), (5, .int (v)), (6, .int (nI j))]) hx hb dX8_median_121 hl (k := 4) rfl (nI_1 _) (by decide) rfl (fun ls hl => ?_)
                refine lv_goto (tgt := 45) hx hb dX8_median_124 (by decide) ?_
                refine lv_iload hx hb dX8_median_45 (lv_at hl 0 rfl) ?_
                refine lv_iload_n hx hb dX8_median_47 rfl (lv_at hl 4 rfl) ?_
                refine lv_icmp_ge (tgt := 127) hx hb dX8_median_48 (by decide) (fun c11 => ?_) (fun c11 => ?_)
                · have c11n : mn ≤ (k + 1) := by have q := (nI_leI (a := mn) (b := (k + 1)) (by omega) (by omega)); first | exact q.mp c11 | exact fun z => c11 (q.mpr z)
                  refine lv_iload_n hx hb dX8_median_127 rfl (lv_at hl 4 rfl) ?_
                  refine lv_if_ne (tgt := 136) hx hb dX8_median_128 (by decide) (fun c12 => ?_) (fun c12 => ?_)
                  · have c12n : ¬ mn = 0 := by have q := (nI_eq (a := mn) (b := 0) (by omega) (by omega)); first | exact q.mp c12 | exact fun z => c12 (q.mpr z)
                    refine lv_aload_n hx hb dX8_median_136 rfl (lv_at hl 1 rfl) ?_
                    refine g_f hw hf (by decide) (c_R E _) rfl inlX8 10 (by decide) rfl q96 rfl dX8_median_137 ?_
                    refine lv_iload_n hx hb dX8_median_140 rfl (lv_at hl 4 rfl) ?_
                    refine lv_iconst (v := 1) hx hb dX8_median_141 (by decide) ?_
                    refine lv_isub hx hb dX8_median_142 ?_
                    refine fold_i (show nI (mn) - 1 = nI (mn - 1) from pk_sub (a := mn) (b := 1) (by omega)) ?_
                    refine lv_iconst (v := 2) hx hb dX8_median_143 (by decide) ?_
                    refine lv_idiv hx hb dX8_median_144 (by decide) ?_
                    refine fold_i (show nI (mn - 1) / 2 = nI ((mn - 1) / 2) from nI_hf (by omega)) ?_
                    refine g_a hw hf (by decide) (c_Ro E _) (vp_in_nI (show (mn - 1) / 2 < 9 from (by omega)) (by decide)) (tr_at (y := (mn - 1) / 2) (by omega) (nI_clamp (Nat.lt_trans (show (mn - 1) / 2 < 9 from (by omega)) (by decide)))) dX8_median_145 ?_
                    exact e_i hf hr hlocks hw rfl ((hq).trans ((if_neg c7).trans ((if_pos c10).trans ((if_pos c11).trans ((if_neg c12).trans rfl))))) dX8_median_146
                  · have c12n : mn = 0 := by have q := (nI_eq (a := mn) (b := 0) (by omega) (by omega)); first | exact q.mp c12 | exact fun z => c12 (q.mpr z)
                    refine lv_ldc hx hb hf.2.2.2.1 (hf.2.2.2.2 _ q242) dX8_median_131 ?_
                    refine lv_goto (tgt := 146) hx hb dX8_median_133 (by decide) ?_
                    exact e_i hf hr hlocks hw rfl ((hq).trans ((if_neg c7).trans ((if_pos c10).trans ((if_pos c11).trans ((if_pos c12).trans rfl))))) dX8_median_146
                · have c11n : ¬ mn ≤ (k + 1) := by have q := (nI_leI (a := mn) (b := (k + 1)) (by omega) (by omega)); first | exact q.mp c11 | exact fun z => c11 (q.mpr z)
                  refine lv_aload_n hx hb dX8_median_51 rfl (lv_at hl 1 rfl) ?_
                  refine lv_iload_n hx hb dX8_median_52 rfl (lv_at hl 2 rfl) ?_
                  refine fold_i (show a = nI (a.toNatClampNeg) from c1a.1) ?_
                  refine lv_bipush (v := 20) hx hb dX8_median_53 (by decide) ?_
                  refine lv_iload_n hx hb dX8_median_55 rfl (lv_at hl 3 rfl) ?_
                  refine lv_iadd hx hb dX8_median_56 ?_
                  refine fold_i (show (20 : Int32) + nI ((μ.1 8 (85 + 29 * a.toNatClampNeg + 19)).toNatClampNeg) = nI (20 + ((μ.1 8 (85 + 29 * a.toNatClampNeg + 19)).toNatClampNeg)) from nI_add (20) ((μ.1 8 (85 + 29 * a.toNatClampNeg + 19)).toNatClampNeg)) ?_
                  refine lv_iconst (v := 1) hx hb dX8_median_57 (by decide) ?_
                  refine lv_isub hx hb dX8_median_58 ?_
                  refine fold_i (show nI (20 + ((μ.1 8 (85 + 29 * a.toNatClampNeg + 19)).toNatClampNeg)) - 1 = nI (20 + ((μ.1 8 (85 + 29 * a.toNatClampNeg + 19)).toNatClampNeg) - 1) from pk_sub (a := 20 + ((μ.1 8 (85 + 29 * a.toNatClampNeg + 19)).toNatClampNeg)) (b := 1) (by omega)) ?_
                  refine lv_iload hx hb dX8_median_59 (lv_at hl 0 rfl) ?_
                  refine lv_isub hx hb dX8_median_61 ?_
                  refine fold_i (show nI (20 + ((μ.1 8 (85 + 29 * a.toNatClampNeg + 19)).toNatClampNeg) - 1) - nI (k + 1) = nI ((20 + ((μ.1 8 (85 + 29 * a.toNatClampNeg + 19)).toNatClampNeg) - 1) - (k + 1)) from pk_sub (a := 20 + ((μ.1 8 (85 + 29 * a.toNatClampNeg + 19)).toNatClampNeg) - 1) (b := k + 1) (by omega)) ?_
                  refine c_iR hw (run_V (As := [.int (nI (a.toNatClampNeg)), .int (nI ((20 + ((μ.1 8 (85 + 29 * a.toNatClampNeg + 19)).toNatClampNeg) - 1) - (k + 1)))]) (rest := []) (np := 2) hf hw (kn_X8_of l E _  a.toNatClampNeg ((20 + ((μ.1 8 (85 + 29 * a.toNatClampNeg + 19)).toNatClampNeg) - 1) - (k + 1))  (show a.toNatClampNeg < 6 from c1ab) (show (20 + ((μ.1 8 (85 + 29 * a.toNatClampNeg + 19)).toNatClampNeg) - 1) - (k + 1) < 29 from (by omega))) ⟨gl_V q227 q228 q229 q5 q230, by decide +kernel⟩ ⟨rfl, rfl, Nat.le_of_ble_eq_true rfl, Nat.le_of_ble_eq_true rfl⟩ (by decide) (c_R E _) rfl rfl hl.1 rfl (Nat.le_of_ble_eq_true rfl) dX8_median_62 ⟨Nat.zero_le _, Nat.zero_le _⟩) (fun H locs hw => ?_)
                  refine fold_i (y := ((μ1).1 8 (85 + 29 * a.toNatClampNeg + ((20 + ((μ.1 8 (85 + 29 * a.toNatClampNeg + 19)).toNatClampNeg) - 1) - (k + 1))))) (by first | rfl | (simp [pM, pJ, upM, upJ, upM_r, tk_M, tk_K, tk_0, tk_1, tk_2, tk_3, tk_4, tk_5, tk_6, tk_7, tk_8, tk_9, tk_10, tk_o, ms_0_0, ms_0_1, ms_0_2, ms_0_3, ms_0_4, ms_0_5, ms_0_6, ms_0_7, ms_0_8, ms_0_9, ms_0_10, ms_1_0, ms_1_1, ms_1_2, ms_1_3, ms_1_4, ms_1_5, ms_1_6, ms_1_7, ms_1_8, ms_1_9, ms_1_10, ms_w, ms_r, ms_d, ms_M, ms_6, ms_K, pC_row]; done) | (simp (disch := (first | omega | (simp only [tN, tD, tR, sF]; omega))) only [pM, pJ, upM_s, upM_k, upM_c, upJ_s, upJ_k, upJ_c, tk_M, tk_K, tk_0, tk_1, tk_2, tk_3, tk_4, tk_5, tk_6, tk_7, tk_8, tk_9, tk_10, tk_o, ms_0_0, ms_0_1, ms_0_2, ms_0_3, ms_0_4, ms_0_5, ms_0_6, ms_0_7, ms_0_8, ms_0_9, ms_0_10, ms_1_0, ms_1_1, ms_1_2, ms_1_3, ms_1_4, ms_1_5, ms_1_6, ms_1_7, ms_1_8, ms_1_9, ms_1_10, ms_w, ms_r, ms_d, ms_M, ms_6, ms_K, pC_row]; done) | rfl) ?_
                  refine lv_istore (lv' := [(5, .int (((μ1).1 8 (85 + 29 * a.toNatClampNeg + ((20 + ((μ.1 8 (85 + 29 * a.toNatClampNeg + 19)).toNatClampNeg) - 1) - (k + 1)))))), (4, .int (nI (k + 1))), (0, .ref (E.1 (232))), (1, .int (a)), (2, .int (nI ((μ.1 8 (85 + 29 * a.toNatClampNeg + 19)).toNatClampNeg))), (3, .int (nI mn)), (6, .int (nI j))]) hx hb dX8_median_65 hl (by decide) rfl (fun ls hl => ?_)
                  refine lv_iload hx hb dX8_median_67 (lv_at hl 1 rfl) ?_
                  refine lv_istore (lv' := [(6, .int (nI (k + 1))), (5, .int (((μ1).1 8 (85 + 29 * a.toNatClampNeg + ((20 + ((μ.1 8 (85 + 29 * a.toNatClampNeg + 19)).toNatClampNeg) - 1) - (k + 1)))))), (4, .int (nI (k + 1))), (0, .ref (E.1 (232))), (1, .int (a)), (2, .int (nI ((μ.1 8 (85 + 29 * a.toNatClampNeg + 19)).toNatClampNeg))), (3, .int (nI mn))]) hx hb dX8_median_69 hl (by decide) rfl (fun ls hl => ?_)
                  exact ih mn (k + 1) ((μ1).1 8 (85 + 29 * a.toNatClampNeg + ((20 + ((μ.1 8 (85 + 29 * a.toNatClampNeg + 19)).toNatClampNeg) - 1) - (k + 1)))) (k + 1) (pM μ1 14 j v) (by omega) (by omega) (by omega) (by omega) (((hq).trans ((if_neg c7).trans ((if_pos c10).trans ((if_neg c11).trans rfl))))) _ _ _ (lv_sub hl [3, 4, 5, 6, 2, 1, 0] rfl) hw
              · refine lv_aload_n hx hb dX8_median_90 rfl (lv_at hl 0 rfl) ?_
                refine g_f hw hf (by decide) (c_R E _) rfl inlX8 10 (by decide) rfl q96 rfl dX8_median_91 ?_
                refine lv_iload hx hb dX8_median_94 (lv_at hl 6 rfl) ?_
                refine lv_aload_n hx hb dX8_median_96 rfl (lv_at hl 0 rfl) ?_
                refine g_f hw hf (by decide) (c_R E _) rfl inlX8 10 (by decide) rfl q96 rfl dX8_median_97 ?_
                refine lv_iload hx hb dX8_median_100 (lv_at hl 6 rfl) ?_
                refine lv_iconst (v := 1) hx hb dX8_median_102 (by decide) ?_
                refine lv_isub hx hb dX8_median_103 ?_
                refine fold_i (show nI (j) - 1 = nI (j - 1) from pk_sub (a := j) (b := 1) (by omega)) ?_
                refine g_a hw hf (by decide) (c_Ro E _) (vp_in_nI (show j - 1 < 9 from (by omega)) (by decide)) (tr_at (y := j - 1) (by omega) (nI_clamp (Nat.lt_trans (show j - 1 < 9 from (by omega)) (by decide)))) dX8_median_104 ?_
                refine p_a hw hf (by decide) (c_Ro E _) (vp_in_nI (show j < 9 from (by omega)) (by decide)) (by rw [show (nI j).toNatClampNeg = j from (nI_clamp (Nat.lt_trans (show j < 9 from (by omega)) (by decide)))]; exact (s_Ro E _ (by omega) _)) dX8_median_105 (fun H locs hw => ?_)
                refine lv_iinc (v := nI (j - 1)) (lv' := [(6, .int (nI (j - 1))), (0, .ref (E.1 (232))), (1, .int (a)), (2, .int (nI ((μ.1 8 (85 + 29 * a.toNatClampNeg + 19)).toNatClampNeg))), (3, .int (nI mn)), (4, .int (nI k)), (5, .int (v))]) hx hb dX8_median_106 hl (k := 6) rfl (sb_m1 (by omega)) (by decide) rfl (fun ls hl => ?_)
                refine lv_goto (tgt := 71) hx hb dX8_median_109 (by decide) ?_
                exact ih mn k v (j - 1) (pM μ1 14 j ((μ1).1 14 (j - 1))) (by omega) (by omega) (by omega) (by omega) (((hq).trans ((if_neg c7).trans ((if_neg c10).trans rfl)))) _ _ _ (lv_sub hl [1, 2, 3, 4, 5, 6, 0] rfl) hw
        exact key_71 100 ((μ.1 8 (85 + 29 * a.toNatClampNeg + 19)).toNatClampNeg) 0 (μ.1 8 (85 + 29 * a.toNatClampNeg + (20 + ((μ.1 8 (85 + 29 * a.toNatClampNeg + 19)).toNatClampNeg) - 1 - 0))) 0 μ (by omega) (by omega) (by omega) (by omega) (((if_pos c1).trans ((if_pos c4).trans ((if_neg c5).trans rfl)))) _ _ _ (lv_sub hl [5, 6, 4, 3, 2, 1, 0] rfl) hw
    · have c4n : ¬ ((μ.1 8 (85 + 29 * a.toNatClampNeg + 19)).toNatClampNeg) ≤ ((μ.1 8 8).toNatClampNeg) := by have q := (nI_leI (a := ((μ.1 8 (85 + 29 * a.toNatClampNeg + 19)).toNatClampNeg)) (b := ((μ.1 8 8).toNatClampNeg)) (by omega) (by omega)); first | exact q.mp c4 | exact fun z => c4 (q.mpr z)
      refine lv_aload_n hx hb dX8_median_30 rfl (lv_at hl 1 rfl) ?_
      refine g_f hw hf (by decide) (c_R E _) rfl inlX8 0 (by decide) rfl q90 rfl dX8_median_31 ?_
      refine lv_bipush (v := 8) hx hb dX8_median_34 (by decide) ?_
      refine g_a hw hf (by decide) (c_Rs E _) (vp_lit 8 259 (by decide) (by decide)) (tr_at (y := 8) (by decide) (by decide)) dX8_median_36 ?_
      refine fold_i (show μ.1 8 8 = nI ((μ.1 8 8).toNatClampNeg) from hm.1) ?_
      refine lv_goto (tgt := 41) hx hb dX8_median_37 (by decide) ?_
      refine lv_istore_n (lv' := [(3, .int (nI ((μ.1 8 8).toNatClampNeg))), (2, .int (nI ((μ.1 8 (85 + 29 * a.toNatClampNeg + 19)).toNatClampNeg))), (0, .ref (E.1 (232))), (1, .int (a))]) hx hb dX8_median_41 rfl hl (by decide) rfl (fun ls hl => ?_)
      refine lv_iconst (v := 0) hx hb dX8_median_42 (by decide) ?_
      refine lv_istore (lv' := [(4, .int 0), (3, .int (nI ((μ.1 8 8).toNatClampNeg))), (2, .int (nI ((μ.1 8 (85 + 29 * a.toNatClampNeg + 19)).toNatClampNeg))), (0, .ref (E.1 (232))), (1, .int (a))]) hx hb dX8_median_43 hl (by decide) rfl (fun ls hl => ?_)
      refine lv_iload hx hb dX8_median_45 (lv_at hl 0 rfl) ?_
      refine lv_iload_n hx hb dX8_median_47 rfl (lv_at hl 1 rfl) ?_
      refine lv_icmp_ge (tgt := 127) hx hb dX8_median_48 (by decide) (fun c13 => ?_) (fun c13 => ?_)
      · have c13n : ((μ.1 8 8).toNatClampNeg) ≤ 0 := by have q := (nI_leI (a := ((μ.1 8 8).toNatClampNeg)) (b := 0) (by omega) (by omega)); first | exact q.mp c13 | exact fun z => c13 (q.mpr z)
        refine lv_iload_n hx hb dX8_median_127 rfl (lv_at hl 1 rfl) ?_
        refine lv_if_ne (tgt := 136) hx hb dX8_median_128 (by decide) (fun c14 => ?_) (fun c14 => ?_)
        · have c14n : ¬ ((μ.1 8 8).toNatClampNeg) = 0 := by have q := (nI_eq (a := ((μ.1 8 8).toNatClampNeg)) (b := 0) (by omega) (by omega)); first | exact q.mp c14 | exact fun z => c14 (q.mpr z)
          refine lv_aload_n hx hb dX8_median_136 rfl (lv_at hl 3 rfl) ?_
          refine g_f hw hf (by decide) (c_R E _) rfl inlX8 10 (by decide) rfl q96 rfl dX8_median_137 ?_
          refine lv_iload_n hx hb dX8_median_140 rfl (lv_at hl 1 rfl) ?_
          refine lv_iconst (v := 1) hx hb dX8_median_141 (by decide) ?_
          refine lv_isub hx hb dX8_median_142 ?_
          refine fold_i (show nI ((μ.1 8 8).toNatClampNeg) - 1 = nI ((μ.1 8 8).toNatClampNeg - 1) from pk_sub (a := (μ.1 8 8).toNatClampNeg) (b := 1) (by omega)) ?_
          refine lv_iconst (v := 2) hx hb dX8_median_143 (by decide) ?_
          refine lv_idiv hx hb dX8_median_144 (by decide) ?_
          refine fold_i (show nI ((μ.1 8 8).toNatClampNeg - 1) / 2 = nI (((μ.1 8 8).toNatClampNeg - 1) / 2) from nI_hf (by omega)) ?_
          refine g_a hw hf (by decide) (c_Ro E _) (vp_in_nI (show ((μ.1 8 8).toNatClampNeg - 1) / 2 < 9 from (by omega)) (by decide)) (tr_at (y := ((μ.1 8 8).toNatClampNeg - 1) / 2) (by omega) (nI_clamp (Nat.lt_trans (show ((μ.1 8 8).toNatClampNeg - 1) / 2 < 9 from (by omega)) (by decide)))) dX8_median_145 ?_
          exact e_i hf hr hlocks hw rfl ((if_pos c1).trans ((if_neg c4).trans ((if_pos c13).trans ((if_neg c14).trans rfl)))) dX8_median_146
        · have c14n : ((μ.1 8 8).toNatClampNeg) = 0 := by have q := (nI_eq (a := ((μ.1 8 8).toNatClampNeg)) (b := 0) (by omega) (by omega)); first | exact q.mp c14 | exact fun z => c14 (q.mpr z)
          refine lv_ldc hx hb hf.2.2.2.1 (hf.2.2.2.2 _ q242) dX8_median_131 ?_
          refine lv_goto (tgt := 146) hx hb dX8_median_133 (by decide) ?_
          exact e_i hf hr hlocks hw rfl ((if_pos c1).trans ((if_neg c4).trans ((if_pos c13).trans ((if_pos c14).trans rfl)))) dX8_median_146
      · have c13n : ¬ ((μ.1 8 8).toNatClampNeg) ≤ 0 := by have q := (nI_leI (a := ((μ.1 8 8).toNatClampNeg)) (b := 0) (by omega) (by omega)); first | exact q.mp c13 | exact fun z => c13 (q.mpr z)
        refine lv_aload_n hx hb dX8_median_51 rfl (lv_at hl 3 rfl) ?_
        refine lv_iload_n hx hb dX8_median_52 rfl (lv_at hl 4 rfl) ?_
        refine fold_i (show a = nI (a.toNatClampNeg) from c1a.1) ?_
        refine lv_bipush (v := 20) hx hb dX8_median_53 (by decide) ?_
        refine lv_iload_n hx hb dX8_median_55 rfl (lv_at hl 2 rfl) ?_
        refine lv_iadd hx hb dX8_median_56 ?_
        refine fold_i (show (20 : Int32) + nI ((μ.1 8 (85 + 29 * a.toNatClampNeg + 19)).toNatClampNeg) = nI (20 + ((μ.1 8 (85 + 29 * a.toNatClampNeg + 19)).toNatClampNeg)) from nI_add (20) ((μ.1 8 (85 + 29 * a.toNatClampNeg + 19)).toNatClampNeg)) ?_
        refine lv_iconst (v := 1) hx hb dX8_median_57 (by decide) ?_
        refine lv_isub hx hb dX8_median_58 ?_
        refine fold_i (show nI (20 + ((μ.1 8 (85 + 29 * a.toNatClampNeg + 19)).toNatClampNeg)) - 1 = nI (20 + ((μ.1 8 (85 + 29 * a.toNatClampNeg + 19)).toNatClampNeg) - 1) from pk_sub (a := 20 + ((μ.1 8 (85 + 29 * a.toNatClampNeg + 19)).toNatClampNeg)) (b := 1) (by omega)) ?_
        refine lv_iload hx hb dX8_median_59 (lv_at hl 0 rfl) ?_
        refine lv_isub hx hb dX8_median_61 ?_
        refine fold_i (show nI (20 + ((μ.1 8 (85 + 29 * a.toNatClampNeg + 19)).toNatClampNeg) - 1) - 0 = nI (20 + ((μ.1 8 (85 + 29 * a.toNatClampNeg + 19)).toNatClampNeg) - 1 - 0) from pk_sub (a := 20 + ((μ.1 8 (85 + 29 * a.toNatClampNeg + 19)).toNatClampNeg) - 1) (b := 0) (by omega)) ?_
        refine c_iR hw (run_V (As := [.int (nI (a.toNatClampNeg)), .int (nI (20 + ((μ.1 8 (85 + 29 * a.toNatClampNeg + 19)).toNatClampNeg) - 1 - 0))]) (rest := []) (np := 2) hf hw (kn_X8_of l E _  a.toNatClampNeg (20 + ((μ.1 8 (85 + 29 * a.toNatClampNeg + 19)).toNatClampNeg) - 1 - 0)  (show a.toNatClampNeg < 6 from c1ab) (show 20 + ((μ.1 8 (85 + 29 * a.toNatClampNeg + 19)).toNatClampNeg) - 1 - 0 < 29 from (by omega))) ⟨gl_V q227 q228 q229 q5 q230, by decide +kernel⟩ ⟨rfl, rfl, Nat.le_of_ble_eq_true rfl, Nat.le_of_ble_eq_true rfl⟩ (by decide) (c_R E _) rfl rfl hl.1 rfl (Nat.le_of_ble_eq_true rfl) dX8_median_62 ⟨Nat.zero_le _, Nat.zero_le _⟩) (fun H locs hw => ?_)
        refine lv_istore (lv' := [(5, .int ((μ.1 8 (85 + 29 * a.toNatClampNeg + (20 + ((μ.1 8 (85 + 29 * a.toNatClampNeg + 19)).toNatClampNeg) - 1 - 0))))), (4, .int 0), (3, .int (nI ((μ.1 8 8).toNatClampNeg))), (2, .int (nI ((μ.1 8 (85 + 29 * a.toNatClampNeg + 19)).toNatClampNeg))), (0, .ref (E.1 (232))), (1, .int (a))]) hx hb dX8_median_65 hl (by decide) rfl (fun ls hl => ?_)
        refine lv_iload hx hb dX8_median_67 (lv_at hl 1 rfl) ?_
        refine lv_istore (lv' := [(6, .int 0), (5, .int ((μ.1 8 (85 + 29 * a.toNatClampNeg + (20 + ((μ.1 8 (85 + 29 * a.toNatClampNeg + 19)).toNatClampNeg) - 1 - 0))))), (4, .int 0), (3, .int (nI ((μ.1 8 8).toNatClampNeg))), (2, .int (nI ((μ.1 8 (85 + 29 * a.toNatClampNeg + 19)).toNatClampNeg))), (0, .ref (E.1 (232))), (1, .int (a))]) hx hb dX8_median_69 hl (by decide) rfl (fun ls hl => ?_)
        have key_71 : ∀ (f : Nat) (mn : Nat) (k : Nat) (v : Int32) (j : Nat) (μ1 : Mu), 100 + j ≤ 11 * k + f → k < mn ∧ j ≤ k → mn ≤ (μ.1 8 (85 + 29 * a.toNatClampNeg + 19)).toNatClampNeg → (μ.1 8 (85 + 29 * a.toNatClampNeg + 19)).toNatClampNeg < 10 → sp_X8_median μ a = lp_X8_median_71 μ a f mn k v j μ1 → ∀ (ls : Array Slot) (H : Heap) (locs : List Loc), lv_has ls 7 [(0, .ref (E.1 (232))), (1, .int (a)), (2, .int (nI ((μ.1 8 (85 + 29 * a.toNatClampNeg + 19)).toNatClampNeg))), (3, .int (nI mn)), (4, .int (nI k)), (5, .int (v)), (6, .int (nI j))] → Wk E μ1 s H locs → W p l e ({ frames := 2, cells := 0, slots := 0, locals := 43 }) s m args below meth c H locs 0 0 (MQ below (va_Qi (fun r u => r = ((sp_X8_median μ a)).1 ∧ u = ((sp_X8_median μ a)).2) (fun u t => WdU E u t) (inE E)) args s 0 0 (inE E)) (F0 m 71 ls []) := by
          intro f
          induction f with
          | zero => intro mn k v j μ1 h1 h2 h3 h4 hq ls H locs hl hw; exfalso; omega
          | succ f ih =>
            intro mn k v j μ1 h1 h2 h3 h4 hq ls H locs hl hw
            refine lv_iload hx hb dX8_median_71 (lv_at hl 6 rfl) ?_
            refine lv_if_le (tgt := 112) hx hb dX8_median_73 (by decide) (fun c15 => ?_) (fun c15 => ?_)
            · have c15n : j ≤ 0 := by have q := (nI_leI (a := j) (b := 0) (by omega) (by omega)); first | exact q.mp c15 | exact fun z => c15 (q.mpr z)
              refine lv_aload_n hx hb dX8_median_112 rfl (lv_at hl 0 rfl) ?_
              refine g_f hw hf (by decide) (c_R E _) rfl inlX8 10 (by decide) rfl q96 rfl dX8_median_113 ?_
              refine lv_iload hx hb dX8_median_116 (lv_at hl 6 rfl) ?_
              refine lv_iload hx hb dX8_median_118 (lv_at hl 5 rfl) ?_
              refine p_a hw hf (by decide) (c_Ro E _) (vp_in_nI (show j < 9 from (by omega)) (by decide)) (by rw [show (nI j).toNatClampNeg = j from (nI_clamp (Nat.lt_trans (show j < 9 from (by omega)) (by decide)))]; exact (s_Ro E _ (by omega) _)) dX8_median_120 (fun H locs hw => ?_)
              refine lv_iinc (v := nI (k + 1)) (lv' := [(4, .int (nI (k + 1))), (0, .ref (E.1 (232))), (1, .int (a)), (2, .int (nI ((μ.1 8 (85 + 29 * a.toNatClampNeg + 19)).toNatClampNeg))), (3, .int (nI mn)), (5, .int (v)), (6, .int (nI j))]) hx hb dX8_median_121 hl (k := 4) rfl (nI_1 _) (by decide) rfl (fun ls hl => ?_)
              refine lv_goto (tgt := 45) hx hb dX8_median_124 (by decide) ?_
              refine lv_iload hx hb dX8_median_45 (lv_at hl 0 rfl) ?_
              refine lv_iload_n hx hb dX8_median_47 rfl (lv_at hl 4 rfl) ?_
              refine lv_icmp_ge (tgt := 127) hx hb dX8_median_48 (by decide) (fun c16 => ?_) (fun c16 => ?_)
              · have c16n : mn ≤ (k + 1) := by have q := (nI_leI (a := mn) (b := (k + 1)) (by omega) (by omega)); first | exact q.mp c16 | exact fun z => c16 (q.mpr z)
                refine lv_iload_n hx hb dX8_median_127 rfl (lv_at hl 4 rfl) ?_
                refine lv_if_ne (tgt := 136) hx hb dX8_median_128 (by decide) (fun c17 => ?_) (fun c17 => ?_)
                · have c17n : ¬ mn = 0 := by have q := (nI_eq (a := mn) (b := 0) (by omega) (by omega)); first | exact q.mp c17 | exact fun z => c17 (q.mpr z)
                  refine lv_aload_n hx hb dX8_median_136 rfl (lv_at hl 1 rfl) ?_
                  refine g_f hw hf (by decide) (c_R E _) rfl inlX8 10 (by decide) rfl q96 rfl dX8_median_137 ?_
                  refine lv_iload_n hx hb dX8_median_140 rfl (lv_at hl 4 rfl) ?_
                  refine lv_iconst (v := 1) hx hb dX8_median_141 (by decide) ?_
                  refine lv_isub hx hb dX8_median_142 ?_
                  refine fold_i (show nI (mn) - 1 = nI (mn - 1) from pk_sub (a := mn) (b := 1) (by omega)) ?_
                  refine lv_iconst (v := 2) hx hb dX8_median_143 (by decide) ?_
                  refine lv_idiv hx hb dX8_median_144 (by decide) ?_
                  refine fold_i (show nI (mn - 1) / 2 = nI ((mn - 1) / 2) from nI_hf (by omega)) ?_
                  refine g_a hw hf (by decide) (c_Ro E _) (vp_in_nI (show (mn - 1) / 2 < 9 from (by omega)) (by decide)) (tr_at (y := (mn - 1) / 2) (by omega) (nI_clamp (Nat.lt_trans (show (mn - 1) / 2 < 9 from (by omega)) (by decide)))) dX8_median_145 ?_
                  exact e_i hf hr hlocks hw rfl ((hq).trans ((if_pos c15).trans ((if_pos c16).trans ((if_neg c17).trans rfl)))) dX8_median_146
                · have c17n : mn = 0 := by have q := (nI_eq (a := mn) (b := 0) (by omega) (by omega)); first | exact q.mp c17 | exact fun z => c17 (q.mpr z)
                  refine lv_ldc hx hb hf.2.2.2.1 (hf.2.2.2.2 _ q242) dX8_median_131 ?_
                  refine lv_goto (tgt := 146) hx hb dX8_median_133 (by decide) ?_
                  exact e_i hf hr hlocks hw rfl ((hq).trans ((if_pos c15).trans ((if_pos c16).trans ((if_pos c17).trans rfl)))) dX8_median_146
              · have c16n : ¬ mn ≤ (k + 1) := by have q := (nI_leI (a := mn) (b := (k + 1)) (by omega) (by omega)); first | exact q.mp c16 | exact fun z => c16 (q.mpr z)
                refine lv_aload_n hx hb dX8_median_51 rfl (lv_at hl 1 rfl) ?_
                refine lv_iload_n hx hb dX8_median_52 rfl (lv_at hl 2 rfl) ?_
                refine fold_i (show a = nI (a.toNatClampNeg) from c1a.1) ?_
                refine lv_bipush (v := 20) hx hb dX8_median_53 (by decide) ?_
                refine lv_iload_n hx hb dX8_median_55 rfl (lv_at hl 3 rfl) ?_
                refine lv_iadd hx hb dX8_median_56 ?_
                refine fold_i (show (20 : Int32) + nI ((μ.1 8 (85 + 29 * a.toNatClampNeg + 19)).toNatClampNeg) = nI (20 + ((μ.1 8 (85 + 29 * a.toNatClampNeg + 19)).toNatClampNeg)) from nI_add (20) ((μ.1 8 (85 + 29 * a.toNatClampNeg + 19)).toNatClampNeg)) ?_
                refine lv_iconst (v := 1) hx hb dX8_median_57 (by decide) ?_
                refine lv_isub hx hb dX8_median_58 ?_
                refine fold_i (show nI (20 + ((μ.1 8 (85 + 29 * a.toNatClampNeg + 19)).toNatClampNeg)) - 1 = nI (20 + ((μ.1 8 (85 + 29 * a.toNatClampNeg + 19)).toNatClampNeg) - 1) from pk_sub (a := 20 + ((μ.1 8 (85 + 29 * a.toNatClampNeg + 19)).toNatClampNeg)) (b := 1) (by omega)) ?_
                refine lv_iload hx hb dX8_median_59 (lv_at hl 0 rfl) ?_
                refine lv_isub hx hb dX8_median_61 ?_
                refine fold_i (show nI (20 + ((μ.1 8 (85 + 29 * a.toNatClampNeg + 19)).toNatClampNeg) - 1) - nI (k + 1) = nI ((20 + ((μ.1 8 (85 + 29 * a.toNatClampNeg + 19)).toNatClampNeg) - 1) - (k + 1)) from pk_sub (a := 20 + ((μ.1 8 (85 + 29 * a.toNatClampNeg + 19)).toNatClampNeg) - 1) (b := k + 1) (by omega)) ?_
                refine c_iR hw (run_V (As := [.int (nI (a.toNatClampNeg)), .int (nI ((20 + ((μ.1 8 (85 + 29 * a.toNatClampNeg + 19)).toNatClampNeg) - 1) - (k + 1)))]) (rest := []) (np := 2) hf hw (kn_X8_of l E _  a.toNatClampNeg ((20 + ((μ.1 8 (85 + 29 * a.toNatClampNeg + 19)).toNatClampNeg) - 1) - (k + 1))  (show a.toNatClampNeg < 6 from c1ab) (show (20 + ((μ.1 8 (85 + 29 * a.toNatClampNeg + 19)).toNatClampNeg) - 1) - (k + 1) < 29 from (by omega))) ⟨gl_V q227 q228 q229 q5 q230, by decide +kernel⟩ ⟨rfl, rfl, Nat.le_of_ble_eq_true rfl, Nat.le_of_ble_eq_true rfl⟩ (by decide) (c_R E _) rfl rfl hl.1 rfl (Nat.le_of_ble_eq_true rfl) dX8_median_62 ⟨Nat.zero_le _, Nat.zero_le _⟩) (fun H locs hw => ?_)
                refine fold_i (y := ((μ1).1 8 (85 + 29 * a.toNatClampNeg + ((20 + ((μ.1 8 (85 + 29 * a.toNatClampNeg + 19)).toNatClampNeg) - 1) - (k + 1))))) (by first | rfl | (simp [pM, pJ, upM, upJ, upM_r, tk_M, tk_K, tk_0, tk_1, tk_2, tk_3, tk_4, tk_5, tk_6, tk_7, tk_8, tk_9, tk_10, tk_o, ms_0_0, ms_0_1, ms_0_2, ms_0_3, ms_0_4, ms_0_5, ms_0_6, ms_0_7, ms_0_8, ms_0_9, ms_0_10, ms_1_0, ms_1_1, ms_1_2, ms_1_3, ms_1_4, ms_1_5, ms_1_6, ms_1_7, ms_1_8, ms_1_9, ms_1_10, ms_w, ms_r, ms_d, ms_M, ms_6, ms_K, pC_row]; done) | (simp (disch := (first | omega | (simp only [tN, tD, tR, sF]; omega))) only [pM, pJ, upM_s, upM_k, upM_c, upJ_s, upJ_k, upJ_c, tk_M, tk_K, tk_0, tk_1, tk_2, tk_3, tk_4, tk_5, tk_6, tk_7, tk_8, tk_9, tk_10, tk_o, ms_0_0, ms_0_1, ms_0_2, ms_0_3, ms_0_4, ms_0_5, ms_0_6, ms_0_7, ms_0_8, ms_0_9, ms_0_10, ms_1_0, ms_1_1, ms_1_2, ms_1_3, ms_1_4, ms_1_5, ms_1_6, ms_1_7, ms_1_8, ms_1_9, ms_1_10, ms_w, ms_r, ms_d, ms_M, ms_6, ms_K, pC_row]; done) | rfl) ?_
                refine lv_istore (lv' := [(5, .int (((μ1).1 8 (85 + 29 * a.toNatClampNeg + ((20 + ((μ.1 8 (85 + 29 * a.toNatClampNeg + 19)).toNatClampNeg) - 1) - (k + 1)))))), (4, .int (nI (k + 1))), (0, .ref (E.1 (232))), (1, .int (a)), (2, .int (nI ((μ.1 8 (85 + 29 * a.toNatClampNeg + 19)).toNatClampNeg))), (3, .int (nI mn)), (6, .int (nI j))]) hx hb dX8_median_65 hl (by decide) rfl (fun ls hl => ?_)
                refine lv_iload hx hb dX8_median_67 (lv_at hl 1 rfl) ?_
                refine lv_istore (lv' := [(6, .int (nI (k + 1))), (5, .int (((μ1).1 8 (85 + 29 * a.toNatClampNeg + ((20 + ((μ.1 8 (85 + 29 * a.toNatClampNeg + 19)).toNatClampNeg) - 1) - (k + 1)))))), (4, .int (nI (k + 1))), (0, .ref (E.1 (232))), (1, .int (a)), (2, .int (nI ((μ.1 8 (85 + 29 * a.toNatClampNeg + 19)).toNatClampNeg))), (3, .int (nI mn))]) hx hb dX8_median_69 hl (by decide) rfl (fun ls hl => ?_)
                exact ih mn (k + 1) ((μ1).1 8 (85 + 29 * a.toNatClampNeg + ((20 + ((μ.1 8 (85 + 29 * a.toNatClampNeg + 19)).toNatClampNeg) - 1) - (k + 1)))) (k + 1) (pM μ1 14 j v) (by omega) (by omega) (by omega) (by omega) (((hq).trans ((if_pos c15).trans ((if_neg c16).trans rfl)))) _ _ _ (lv_sub hl [3, 4, 5, 6, 2, 1, 0] rfl) hw
            · have c15n : ¬ j ≤ 0 := by have q := (nI_leI (a := j) (b := 0) (by omega) (by omega)); first | exact q.mp c15 | exact fun z => c15 (q.mpr z)
              refine lv_aload_n hx hb dX8_median_76 rfl (lv_at hl 0 rfl) ?_
              refine g_f hw hf (by decide) (c_R E _) rfl inlX8 10 (by decide) rfl q96 rfl dX8_median_77 ?_
              refine lv_iload hx hb dX8_median_80 (lv_at hl 6 rfl) ?_
              refine lv_iconst (v := 1) hx hb dX8_median_82 (by decide) ?_
              refine lv_isub hx hb dX8_median_83 ?_
              refine fold_i (show nI (j) - 1 = nI (j - 1) from pk_sub (a := j) (b := 1) (by omega)) ?_
              refine g_a hw hf (by decide) (c_Ro E _) (vp_in_nI (show j - 1 < 9 from (by omega)) (by decide)) (tr_at (y := j - 1) (by omega) (nI_clamp (Nat.lt_trans (show j - 1 < 9 from (by omega)) (by decide)))) dX8_median_84 ?_
              refine lv_iload hx hb dX8_median_85 (lv_at hl 5 rfl) ?_
              refine lv_icmp_le (tgt := 112) hx hb dX8_median_87 (by decide) (fun c18 => ?_) (fun c18 => ?_)
              · refine lv_aload_n hx hb dX8_median_112 rfl (lv_at hl 0 rfl) ?_
                refine g_f hw hf (by decide) (c_R E _) rfl inlX8 10 (by decide) rfl q96 rfl dX8_median_113 ?_
                refine lv_iload hx hb dX8_median_116 (lv_at hl 6 rfl) ?_
                refine lv_iload hx hb dX8_median_118 (lv_at hl 5 rfl) ?_
                refine p_a hw hf (by decide) (c_Ro E _) (vp_in_nI (show j < 9 from (by omega)) (by decide)) (by rw [show (nI j).toNatClampNeg = j from (nI_clamp (Nat.lt_trans (show j < 9 from (by omega)) (by decide)))]; exact (s_Ro E _ (by omega) _)) dX8_median_120 (fun H locs hw => ?_)
                refine lv_iinc (v := nI (k + 1)) (lv' := [(4, .int (nI (k + 1))), (0, .ref (E.1 (232))), (1, .int (a)), (2, .int (nI ((μ.1 8 (85 + 29 * a.toNatClampNeg + 19)).toNatClampNeg))), (3, .int (nI mn)), (5, .int (v)), (6, .int (nI j))]) hx hb dX8_median_121 hl (k := 4) rfl (nI_1 _) (by decide) rfl (fun ls hl => ?_)
                refine lv_goto (tgt := 45) hx hb dX8_median_124 (by decide) ?_
                refine lv_iload hx hb dX8_median_45 (lv_at hl 0 rfl) ?_
                refine lv_iload_n hx hb dX8_median_47 rfl (lv_at hl 4 rfl) ?_
                refine lv_icmp_ge (tgt := 127) hx hb dX8_median_48 (by decide) (fun c19 => ?_) (fun c19 => ?_)
                · have c19n : mn ≤ (k + 1) := by have q := (nI_leI (a := mn) (b := (k + 1)) (by omega) (by omega)); first | exact q.mp c19 | exact fun z => c19 (q.mpr z)
                  refine lv_iload_n hx hb dX8_median_127 rfl (lv_at hl 4 rfl) ?_
                  refine lv_if_ne (tgt := 136) hx hb dX8_median_128 (by decide) (fun c20 => ?_) (fun c20 => ?_)
                  · have c20n : ¬ mn = 0 := by have q := (nI_eq (a := mn) (b := 0) (by omega) (by omega)); first | exact q.mp c20 | exact fun z => c20 (q.mpr z)
                    refine lv_aload_n hx hb dX8_median_136 rfl (lv_at hl 1 rfl) ?_
                    refine g_f hw hf (by decide) (c_R E _) rfl inlX8 10 (by decide) rfl q96 rfl dX8_median_137 ?_
                    refine lv_iload_n hx hb dX8_median_140 rfl (lv_at hl 4 rfl) ?_
                    refine lv_iconst (v := 1) hx hb dX8_median_141 (by decide) ?_
                    refine lv_isub hx hb dX8_median_142 ?_
                    refine fold_i (show nI (mn) - 1 = nI (mn - 1) from pk_sub (a := mn) (b := 1) (by omega)) ?_
                    refine lv_iconst (v := 2) hx hb dX8_median_143 (by decide) ?_
                    refine lv_idiv hx hb dX8_median_144 (by decide) ?_
                    refine fold_i (show nI (mn - 1) / 2 = nI ((mn - 1) / 2) from nI_hf (by omega)) ?_
                    refine g_a hw hf (by decide) (c_Ro E _) (vp_in_nI (show (mn - 1) / 2 < 9 from (by omega)) (by decide)) (tr_at (y := (mn - 1) / 2) (by omega) (nI_clamp (Nat.lt_trans (show (mn - 1) / 2 < 9 from (by omega)) (by decide)))) dX8_median_145 ?_
                    exact e_i hf hr hlocks hw rfl ((hq).trans ((if_neg c15).trans ((if_pos c18).trans ((if_pos c19).trans ((if_neg c20).trans rfl))))) dX8_median_146
                  · have c20n : mn = 0 := by have q := (nI_eq (a := mn) (b := 0) (by omega) (by omega)); first | exact q.mp c20 | exact fun z => c20 (q.mpr z)
                    refine lv_ldc hx hb hf.2.2.2.1 (hf.2.2.2.2 _ q242) dX8_median_131 ?_
                    refine lv_goto (tgt := 146) hx hb dX8_median_133 (by decide) ?_
                    exact e_i hf hr hlocks hw rfl ((hq).trans ((if_neg c15).trans ((if_pos c18).trans ((if_pos c19).trans ((if_pos c20).trans rfl))))) dX8_median_146
                · have c19n : ¬ mn ≤ (k + 1) := by have q := (nI_leI (a := mn) (b := (k + 1)) (by omega) (by omega)); first | exact q.mp c19 | exact fun z => c19 (q.mpr z)
                  refine lv_aload_n hx hb dX8_median_51 rfl (lv_at hl 1 rfl) ?_
                  refine lv_iload_n hx hb dX8_median_52 rfl (lv_at hl 2 rfl) ?_
                  refine fold_i (show a = nI (a.toNatClampNeg) from c1a.1) ?_
                  refine lv_bipush (v := 20) hx hb dX8_median_53 (by decide) ?_
                  refine lv_iload_n hx hb dX8_median_55 rfl (lv_at hl 3 rfl) ?_
                  refine lv_iadd hx hb dX8_median_56 ?_
                  refine fold_i (show (20 : Int32) + nI ((μ.1 8 (85 + 29 * a.toNatClampNeg + 19)).toNatClampNeg) = nI (20 + ((μ.1 8 (85 + 29 * a.toNatClampNeg + 19)).toNatClampNeg)) from nI_add (20) ((μ.1 8 (85 + 29 * a.toNatClampNeg + 19)).toNatClampNeg)) ?_
                  refine lv_iconst (v := 1) hx hb dX8_median_57 (by decide) ?_
                  refine lv_isub hx hb dX8_median_58 ?_
                  refine fold_i (show nI (20 + ((μ.1 8 (85 + 29 * a.toNatClampNeg + 19)).toNatClampNeg)) - 1 = nI (20 + ((μ.1 8 (85 + 29 * a.toNatClampNeg + 19)).toNatClampNeg) - 1) from pk_sub (a := 20 + ((μ.1 8 (85 + 29 * a.toNatClampNeg + 19)).toNatClampNeg)) (b := 1) (by omega)) ?_
                  refine lv_iload hx hb dX8_median_59 (lv_at hl 0 rfl) ?_
                  refine lv_isub hx hb dX8_median_61 ?_
                  refine fold_i (show nI (20 + ((μ.1 8 (85 + 29 * a.toNatClampNeg + 19)).toNatClampNeg) - 1) - nI (k + 1) = nI ((20 + ((μ.1 8 (85 + 29 * a.toNatClampNeg + 19)).toNatClampNeg) - 1) - (k + 1)) from pk_sub (a := 20 + ((μ.1 8 (85 + 29 * a.toNatClampNeg + 19)).toNatClampNeg) - 1) (b := k + 1) (by omega)) ?_
                  refine c_iR hw (run_V (As := [.int (nI (a.toNatClampNeg)), .int (nI ((20 + ((μ.1 8 (85 + 29 * a.toNatClampNeg + 19)).toNatClampNeg) - 1) - (k + 1)))]) (rest := []) (np := 2) hf hw (kn_X8_of l E _  a.toNatClampNeg ((20 + ((μ.1 8 (85 + 29 * a.toNatClampNeg + 19)).toNatClampNeg) - 1) - (k + 1))  (show a.toNatClampNeg < 6 from c1ab) (show (20 + ((μ.1 8 (85 + 29 * a.toNatClampNeg + 19)).toNatClampNeg) - 1) - (k + 1) < 29 from (by omega))) ⟨gl_V q227 q228 q229 q5 q230, by decide +kernel⟩ ⟨rfl, rfl, Nat.le_of_ble_eq_true rfl, Nat.le_of_ble_eq_true rfl⟩ (by decide) (c_R E _) rfl rfl hl.1 rfl (Nat.le_of_ble_eq_true rfl) dX8_median_62 ⟨Nat.zero_le _, Nat.zero_le _⟩) (fun H locs hw => ?_)
                  refine fold_i (y := ((μ1).1 8 (85 + 29 * a.toNatClampNeg + ((20 + ((μ.1 8 (85 + 29 * a.toNatClampNeg + 19)).toNatClampNeg) - 1) - (k + 1))))) (by first | rfl | (simp [pM, pJ, upM, upJ, upM_r, tk_M, tk_K, tk_0, tk_1, tk_2, tk_3, tk_4, tk_5, tk_6, tk_7, tk_8, tk_9, tk_10, tk_o, ms_0_0, ms_0_1, ms_0_2, ms_0_3, ms_0_4, ms_0_5, ms_0_6, ms_0_7, ms_0_8, ms_0_9, ms_0_10, ms_1_0, ms_1_1, ms_1_2, ms_1_3, ms_1_4, ms_1_5, ms_1_6, ms_1_7, ms_1_8, ms_1_9, ms_1_10, ms_w, ms_r, ms_d, ms_M, ms_6, ms_K, pC_row]; done) | (simp (disch := (first | omega | (simp only [tN, tD, tR, sF]; omega))) only [pM, pJ, upM_s, upM_k, upM_c, upJ_s, upJ_k, upJ_c, tk_M, tk_K, tk_0, tk_1, tk_2, tk_3, tk_4, tk_5, tk_6, tk_7, tk_8, tk_9, tk_10, tk_o, ms_0_0, ms_0_1, ms_0_2, ms_0_3, ms_0_4, ms_0_5, ms_0_6, ms_0_7, ms_0_8, ms_0_9, ms_0_10, ms_1_0, ms_1_1, ms_1_2, ms_1_3, ms_1_4, ms_1_5, ms_1_6, ms_1_7, ms_1_8, ms_1_9, ms_1_10, ms_w, ms_r, ms_d, ms_M, ms_6, ms_K, pC_row]; done) | rfl) ?_
                  refine lv_istore (lv' := [(5, .int (((μ1).1 8 (85 + 29 * a.toNatClampNeg + ((20 + ((μ.1 8 (85 + 29 * a.toNatClampNeg + 19)).toNatClampNeg) - 1) - (k + 1)))))), (4, .int (nI (k + 1))), (0, .ref (E.1 (232))), (1, .int (a)), (2, .int (nI ((μ.1 8 (85 + 29 * a.toNatClampNeg + 19)).toNatClampNeg))), (3, .int (nI mn)), (6, .int (nI j))]) hx hb dX8_median_65 hl (by decide) rfl (fun ls hl => ?_)
                  refine lv_iload hx hb dX8_median_67 (lv_at hl 1 rfl) ?_
                  refine lv_istore (lv' := [(6, .int (nI (k + 1))), (5, .int (((μ1).1 8 (85 + 29 * a.toNatClampNeg + ((20 + ((μ.1 8 (85 + 29 * a.toNatClampNeg + 19)).toNatClampNeg) - 1) - (k + 1)))))), (4, .int (nI (k + 1))), (0, .ref (E.1 (232))), (1, .int (a)), (2, .int (nI ((μ.1 8 (85 + 29 * a.toNatClampNeg + 19)).toNatClampNeg))), (3, .int (nI mn))]) hx hb dX8_median_69 hl (by decide) rfl (fun ls hl => ?_)
                  exact ih mn (k + 1) ((μ1).1 8 (85 + 29 * a.toNatClampNeg + ((20 + ((μ.1 8 (85 + 29 * a.toNatClampNeg + 19)).toNatClampNeg) - 1) - (k + 1)))) (k + 1) (pM μ1 14 j v) (by omega) (by omega) (by omega) (by omega) (((hq).trans ((if_neg c15).trans ((if_pos c18).trans ((if_neg c19).trans rfl))))) _ _ _ (lv_sub hl [3, 4, 5, 6, 2, 1, 0] rfl) hw
              · refine lv_aload_n hx hb dX8_median_90 rfl (lv_at hl 0 rfl) ?_
                refine g_f hw hf (by decide) (c_R E _) rfl inlX8 10 (by decide) rfl q96 rfl dX8_median_91 ?_
                refine lv_iload hx hb dX8_median_94 (lv_at hl 6 rfl) ?_
                refine lv_aload_n hx hb dX8_median_96 rfl (lv_at hl 0 rfl) ?_
                refine g_f hw hf (by decide) (c_R E _) rfl inlX8 10 (by decide) rfl q96 rfl dX8_median_97 ?_
                refine lv_iload hx hb dX8_median_100 (lv_at hl 6 rfl) ?_
                refine lv_iconst (v := 1) hx hb dX8_median_102 (by decide) ?_
                refine lv_isub hx hb dX8_median_103 ?_
                refine fold_i (show nI (j) - 1 = nI (j - 1) from pk_sub (a := j) (b := 1) (by omega)) ?_
                refine g_a hw hf (by decide) (c_Ro E _) (vp_in_nI (show j - 1 < 9 from (by omega)) (by decide)) (tr_at (y := j - 1) (by omega) (nI_clamp (Nat.lt_trans (show j - 1 < 9 from (by omega)) (by decide)))) dX8_median_104 ?_
                refine p_a hw hf (by decide) (c_Ro E _) (vp_in_nI (show j < 9 from (by omega)) (by decide)) (by rw [show (nI j).toNatClampNeg = j from (nI_clamp (Nat.lt_trans (show j < 9 from (by omega)) (by decide)))]; exact (s_Ro E _ (by omega) _)) dX8_median_105 (fun H locs hw => ?_)
                refine lv_iinc (v := nI (j - 1)) (lv' := [(6, .int (nI (j - 1))), (0, .ref (E.1 (232))), (1, .int (a)), (2, .int (nI ((μ.1 8 (85 + 29 * a.toNatClampNeg + 19)).toNatClampNeg))), (3, .int (nI mn)), (4, .int (nI k)), (5, .int (v))]) hx hb dX8_median_106 hl (k := 6) rfl (sb_m1 (by omega)) (by decide) rfl (fun ls hl => ?_)
                refine lv_goto (tgt := 71) hx hb dX8_median_109 (by decide) ?_
                exact ih mn k v (j - 1) (pM μ1 14 j ((μ1).1 14 (j - 1))) (by omega) (by omega) (by omega) (by omega) (((hq).trans ((if_neg c15).trans ((if_neg c18).trans rfl)))) _ _ _ (lv_sub hl [1, 2, 3, 4, 5, 6, 0] rfl) hw
        exact key_71 100 ((μ.1 8 8).toNatClampNeg) 0 (μ.1 8 (85 + 29 * a.toNatClampNeg + (20 + ((μ.1 8 (85 + 29 * a.toNatClampNeg + 19)).toNatClampNeg) - 1 - 0))) 0 μ (by omega) (by omega) (by omega) (by omega) (((if_pos c1).trans ((if_neg c4).trans ((if_neg c13).trans rfl)))) _ _ _ (lv_sub hl [5, 6, 4, 3, 2, 1, 0] rfl) hw
  · replace c1 := (bz_0 _).mp c1
    refine lv_ldc hx hb hf.2.2.2.1 (hf.2.2.2.2 _ q154) dX8_median_8 ?_
    exact e_i hf hr hlocks hw rfl ((if_neg c1).trans rfl) dX8_median_10
