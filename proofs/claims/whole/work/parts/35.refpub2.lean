def sp_X8_baths (μ : Mu)  (a : Int32) (b : Int32) : Int32 × Mu :=
  if 0 ≤ a ∧ a ≤ (μ.1 8 1) - 1 then
    if (-200000) ≤ b ∧ b ≤ 850000 then
      if 2 ≤ rN (μ.1 8) ((μ.1 8 (85 + 29 * a.toNatClampNeg + 0)).toNatClampNeg) ∧ (μ.1 8 (11 + 25 * ((μ.1 8 (85 + 29 * a.toNatClampNeg + 0)).toNatClampNeg) + 0)) ≤ b ∧ b ≤ rL (μ.1 8) ((μ.1 8 (85 + 29 * a.toNatClampNeg + 0)).toNatClampNeg) then
        ((μ.1 8 (85 + 29 * a.toNatClampNeg + 4)), pM μ 8 (85 + 29 * a.toNatClampNeg + 4) b)
      else
        ((-2000000002), μ)
    else
      ((-2000000001), μ)
  else
    ((-2000000001), μ)
set_option maxHeartbeats 4000000 in
set_option maxRecDepth 100000 in
theorem k_X8_baths (l : Launch) (E : En) (μ : Mu)  (a : Int32) (b : Int32) (hI : RI (μ.1 8)) : MtI l yX8_baths cX8_baths 4 .int ({ frames := 3, cells := 0, slots := 0, locals := 65 }) [.ref (E.1 (232)), .int (a), .int (b)] E μ (sp_X8_baths μ a b) := by
  refine mt_of (by decide +kernel) (Nat.le_of_ble_eq_true rfl) ?_
  intro p e s m args below meth c ls hf hr hlocks hl hw
  have hx := hf.1
  have hb := hf.2.1
  have hl : lv_has ls 4 [(0, .ref (E.1 (232))), (1, .int (a)), (2, .int (b))] := hl
  refine lv_aload_n hx hb dX8_baths_0 rfl (lv_at hl 0 rfl) ?_
  refine lv_iload_n hx hb dX8_baths_1 rfl (lv_at hl 1 rfl) ?_
  refine c_iR hw (run_V (As := [.int (a)]) (rest := []) (np := 1) hf hw (kn_X8_isSensor l E _  a  ) ⟨gl_V q370 q371 q372 q5 q373, by decide +kernel⟩ ⟨rfl, rfl, Nat.le_of_ble_eq_true rfl, Nat.le_of_ble_eq_true rfl⟩ (by decide) (c_R E _) rfl rfl hl.1 rfl (Nat.le_of_ble_eq_true rfl) dX8_baths_2 ⟨Nat.zero_le _, Nat.zero_le _⟩) (fun H locs hw => ?_)
  refine lv_if_eq (tgt := 15) hx hb dX8_baths_5 (by decide) (fun c1 => ?_) (fun c1 => ?_)
  · replace c1 := (bz_0 _).mp c1
    refine lv_ldc hx hb hf.2.2.2.1 (hf.2.2.2.2 _ q154) dX8_baths_15 ?_
    exact e_i hf hr hlocks hw rfl ((if_neg c1).trans rfl) dX8_baths_17
  · replace c1 := (bz_n0 _).mp c1
    have c1a := (ni_of hI.2.1 (by decide) c1)
    have c1ab : a.toNatClampNeg < 6 := Nat.lt_of_lt_of_le c1a.2 (Nat.le_of_lt_succ hI.2.1.2)
    refine lv_iload_n hx hb dX8_baths_8 rfl (lv_at hl 2 rfl) ?_
    refine c_iR hw (run_S (As := [.int (b)]) (rest := []) (np := 1) hf hw (kn_X8_isDegree l E _  b  ) ⟨gl_S q210 q211 q5 q212, by decide +kernel⟩ ⟨rfl, rfl, Nat.le_of_ble_eq_true rfl, Nat.le_of_ble_eq_true rfl⟩ rfl hl.1 rfl (Nat.le_of_ble_eq_true rfl) dX8_baths_9 ⟨Nat.zero_le _, Nat.zero_le _⟩) (fun H locs hw => ?_)
    refine lv_if_ne (tgt := 18) hx hb dX8_baths_12 (by decide) (fun c2 => ?_) (fun c2 => ?_)
    · replace c2 := (bz_n0 _).mp c2
      refine lv_aload_n hx hb dX8_baths_18 rfl (lv_at hl 0 rfl) ?_
      refine lv_aload_n hx hb dX8_baths_19 rfl (lv_at hl 0 rfl) ?_
      refine lv_iload_n hx hb dX8_baths_20 rfl (lv_at hl 1 rfl) ?_
      refine fold_i (show a = nI (a.toNatClampNeg) from c1a.1) ?_
      refine lv_iconst (v := 0) hx hb dX8_baths_21 (by decide) ?_
      refine c_iR hw (run_V (As := [.int (nI (a.toNatClampNeg)), .int 0]) (rest := [.ref (E.1 (232))]) (np := 2) hf hw (kn_X8_of l E _  a.toNatClampNeg 0  (show a.toNatClampNeg < 6 from c1ab) (show 0 < 29 from (by decide))) ⟨gl_V q227 q228 q229 q5 q230, by decide +kernel⟩ ⟨rfl, rfl, Nat.le_of_ble_eq_true rfl, Nat.le_of_ble_eq_true rfl⟩ (by decide) (c_R E _) rfl rfl hl.1 rfl (Nat.le_of_ble_eq_true rfl) dX8_baths_22 ⟨Nat.zero_le _, Nat.zero_le _⟩) (fun H locs hw => ?_)
      have hb3 := ((hI).2.2.2 _ c1ab).1.2
      refine fold_i (show μ.1 8 (85 + 29 * a.toNatClampNeg + 0) = nI ((μ.1 8 (85 + 29 * a.toNatClampNeg + 0)).toNatClampNeg) from ((hI).2.2.2 _ c1ab).1.1) ?_
      refine lv_iload_n hx hb dX8_baths_25 rfl (lv_at hl 2 rfl) ?_
      refine c_iR hw (run_V (As := [.int (nI ((μ.1 8 (85 + 29 * a.toNatClampNeg + 0)).toNatClampNeg)), .int (b)]) (rest := []) (np := 2) hf hw (kn_X8_goes l E _  ((μ.1 8 (85 + 29 * a.toNatClampNeg + 0)).toNatClampNeg) b  (show (μ.1 8 (85 + 29 * a.toNatClampNeg + 0)).toNatClampNeg < 3 from ((hI).2.2.2 _ c1ab).1.2) hI) ⟨gl_V q259 q260 q261 q5 q262, by decide +kernel⟩ ⟨rfl, rfl, Nat.le_of_ble_eq_true rfl, Nat.le_of_ble_eq_true rfl⟩ (by decide) (c_R E _) rfl rfl hl.1 rfl (Nat.le_of_ble_eq_true rfl) dX8_baths_26 ⟨Nat.zero_le _, Nat.zero_le _⟩) (fun H locs hw => ?_)
      refine lv_if_ne (tgt := 35) hx hb dX8_baths_29 (by decide) (fun c4 => ?_) (fun c4 => ?_)
      · replace c4 := (bz_n0 _).mp c4
        refine lv_aload_n hx hb dX8_baths_35 rfl (lv_at hl 0 rfl) ?_
        refine lv_iload_n hx hb dX8_baths_36 rfl (lv_at hl 1 rfl) ?_
        refine fold_i (show a = nI (a.toNatClampNeg) from c1a.1) ?_
        refine lv_iconst (v := 4) hx hb dX8_baths_37 (by decide) ?_
        refine c_iR hw (run_V (As := [.int (nI (a.toNatClampNeg)), .int 4]) (rest := []) (np := 2) hf hw (kn_X8_of l E _  a.toNatClampNeg 4  (show a.toNatClampNeg < 6 from c1ab) (show 4 < 29 from (by decide))) ⟨gl_V q227 q228 q229 q5 q230, by decide +kernel⟩ ⟨rfl, rfl, Nat.le_of_ble_eq_true rfl, Nat.le_of_ble_eq_true rfl⟩ (by decide) (c_R E _) rfl rfl hl.1 rfl (Nat.le_of_ble_eq_true rfl) dX8_baths_38 ⟨Nat.zero_le _, Nat.zero_le _⟩) (fun H locs hw => ?_)
        refine lv_istore_n (lv' := [(3, .int ((μ.1 8 (85 + 29 * a.toNatClampNeg + 4)))), (0, .ref (E.1 (232))), (1, .int (a)), (2, .int (b))]) hx hb dX8_baths_41 rfl hl (by decide) rfl (fun ls hl => ?_)
        refine lv_aload_n hx hb dX8_baths_42 rfl (lv_at hl 1 rfl) ?_
        refine lv_iload_n hx hb dX8_baths_43 rfl (lv_at hl 2 rfl) ?_
        refine fold_i (show a = nI (a.toNatClampNeg) from c1a.1) ?_
        refine lv_iconst (v := 4) hx hb dX8_baths_44 (by decide) ?_
        refine lv_iload_n hx hb dX8_baths_45 rfl (lv_at hl 3 rfl) ?_
        refine c_v hw (run_V (As := [.int (nI (a.toNatClampNeg)), .int 4, .int (b)]) (rest := []) (np := 3) hf hw (kn_X8_put l E _  a.toNatClampNeg 4 b  (show a.toNatClampNeg < 6 from c1ab) (show 4 < 29 from (by decide))) ⟨gl_V q335 q336 q337 q5 q338, by decide +kernel⟩ ⟨rfl, rfl, Nat.le_of_ble_eq_true rfl, Nat.le_of_ble_eq_true rfl⟩ (by decide) (c_R E _) rfl rfl hl.1 rfl (Nat.le_of_ble_eq_true rfl) dX8_baths_46 ⟨Nat.zero_le _, Nat.zero_le _⟩) (fun H locs hw => ?_)
        refine lv_iload_n hx hb dX8_baths_49 rfl (lv_at hl 0 rfl) ?_
        exact e_i hf hr hlocks hw rfl ((if_pos c1).trans ((if_pos c2).trans ((if_pos c4).trans rfl))) dX8_baths_50
      · replace c4 := (bz_0 _).mp c4
        refine lv_ldc hx hb hf.2.2.2.1 (hf.2.2.2.2 _ q202) dX8_baths_32 ?_
        exact e_i hf hr hlocks hw rfl ((if_pos c1).trans ((if_pos c2).trans ((if_neg c4).trans rfl))) dX8_baths_34
    · replace c2 := (bz_0 _).mp c2
      refine lv_ldc hx hb hf.2.2.2.1 (hf.2.2.2.2 _ q154) dX8_baths_15 ?_
      exact e_i hf hr hlocks hw rfl ((if_pos c1).trans ((if_neg c2).trans rfl)) dX8_baths_17
theorem s7_X8_baths {x : Int32} (μ : Mu)  (a : Int32) (b : Int32)  (hh : S7 x μ) : S7 x ((sp_X8_baths μ a b).2) := by
  unfold sp_X8_baths
  exact (s7_ite (s7_ite (s7_ite (s7_lf (s7_pM (by decide) hh)) (s7_lf hh)) (s7_lf hh)) (s7_lf hh))
def sp_X8_bath (μ : Mu)  (a : Int32) (b : Int32) : Int32 × Mu :=
  ((sp_X8_acted ((sp_X8_baths (pC μ 11 0 8 0 259)  a b).2)  ((sp_X8_baths (pC μ 11 0 8 0 259)  a b).1)).1, (sp_X8_acted ((sp_X8_baths (pC μ 11 0 8 0 259)  a b).2)  ((sp_X8_baths (pC μ 11 0 8 0 259)  a b).1)).2)
set_option maxHeartbeats 4000000 in
set_option maxRecDepth 100000 in
theorem k_X8_bath (l : Launch) (E : En) (μ : Mu)  (a : Int32) (b : Int32) (hI : RI (μ.1 8)) (hst : ni 5 (μ.1 7 0)) : MtI l yX8_bath cX8_bath 3 .int ({ frames := 4, cells := 0, slots := 0, locals := 88 }) [.ref (E.1 (232)), .int (a), .int (b)] E μ (sp_X8_bath μ a b) := by
  refine mt_of (by decide +kernel) (Nat.le_of_ble_eq_true rfl) ?_
  intro p e s m args below meth c ls hf hr hlocks hl hw
  have hx := hf.1
  have hb := hf.2.1
  have hl : lv_has ls 3 [(0, .ref (E.1 (232))), (1, .int (a)), (2, .int (b))] := hl
  refine lv_aload_n hx hb dX8_bath_0 rfl (lv_at hl 0 rfl) ?_
  refine c_v hw (run_V (As := []) (rest := []) (np := 0) hf hw (kn_X8_keeps l E _    ) ⟨gl_V q146 q147 q148 q5 q149, by decide +kernel⟩ ⟨rfl, rfl, Nat.le_of_ble_eq_true rfl, Nat.le_of_ble_eq_true rfl⟩ (by decide) (c_R E _) rfl rfl hl.1 rfl (Nat.le_of_ble_eq_true rfl) dX8_bath_1 ⟨Nat.zero_le _, Nat.zero_le _⟩) (fun H locs hw => ?_)
  refine lv_aload_n hx hb dX8_bath_4 rfl (lv_at hl 0 rfl) ?_
  refine lv_aload_n hx hb dX8_bath_5 rfl (lv_at hl 0 rfl) ?_
  refine lv_iload_n hx hb dX8_bath_6 rfl (lv_at hl 1 rfl) ?_
  refine lv_iload_n hx hb dX8_bath_7 rfl (lv_at hl 2 rfl) ?_
  refine c_i hw (run_V (As := [.int (a), .int (b)]) (rest := [.ref (E.1 (232))]) (np := 2) hf hw (k_X8_baths l E _  a b  (by first | exact hI | (simp only [pC_row (show (8 : Nat) ≠ 11 by decide)]; exact hI))) ⟨gl_V q412 q413 q414 q5 q415, by decide +kernel⟩ ⟨rfl, rfl, Nat.le_of_ble_eq_true rfl, Nat.le_of_ble_eq_true rfl⟩ (by decide) (c_R E _) rfl rfl hl.1 rfl (Nat.le_of_ble_eq_true rfl) dX8_bath_8 ⟨Nat.zero_le _, Nat.zero_le _⟩) (fun H locs hw => ?_)
  refine c_i hw (run_V (As := [.int ((sp_X8_baths (pC μ 11 0 8 0 259)  a b).1)]) (rest := []) (np := 1) hf hw (k_X8_acted l E _  ((sp_X8_baths (pC μ 11 0 8 0 259)  a b).1)  (s7_ni (x := μ.1 7 0) (s7_X8_baths (pC μ 11 0 8 0 259) a b  (s7_pC (by decide) (rfl : S7 (μ.1 7 0) μ))) hst)) ⟨gl_V q150 q151 q152 q5 q153, by decide +kernel⟩ ⟨rfl, rfl, Nat.le_of_ble_eq_true rfl, Nat.le_of_ble_eq_true rfl⟩ (by decide) (c_R E _) rfl rfl hl.1 rfl (Nat.le_of_ble_eq_true rfl) dX8_bath_11 ⟨Nat.zero_le _, Nat.zero_le _⟩) (fun H locs hw => ?_)
  exact e_i hf hr hlocks hw rfl rfl dX8_bath_14
def sp_X8_cuts (μ : Mu)  (a : Int32) (b : Int32) (w : Int32) : Int32 × Mu :=
  if (0 ≤ a ∧ a ≤ (μ.1 8 1) - 1) ∧ 0 ≤ b ∧ b ≤ (μ.1 8 (85 + 29 * a.toNatClampNeg + 1)) - 1 then
    if (0 : Int32) ≤ w ∧ w ≤ (1 : Int32) then
      if (((μ.1 8 (85 + 29 * a.toNatClampNeg + 12)) >>> ((nI (b.toNatClampNeg)) &&& 31)) &&& (1 : Int32) : Int32) = nI (w.toNatClampNeg) then
        ((-2000000002), μ)
      else
        (sp_X8_bits   (((μ.1 8 (85 + 29 * a.toNatClampNeg + 12)) ^^^ ((1 : Int32) <<< ((nI (b.toNatClampNeg)) &&& 31)))), pM μ 8 (85 + 29 * a.toNatClampNeg + 12) ((μ.1 8 (85 + 29 * a.toNatClampNeg + 12)) ^^^ ((1 : Int32) <<< ((nI (b.toNatClampNeg)) &&& 31))))
    else
      ((-2000000001), μ)
  else
    ((-2000000001), μ)
set_option maxHeartbeats 4000000 in
set_option maxRecDepth 100000 in
theorem k_X8_cuts (l : Launch) (E : En) (μ : Mu)  (a : Int32) (b : Int32) (w : Int32) (hI : RI (μ.1 8)) : MtI l yX8_cuts cX8_cuts 4 .int ({ frames := 3, cells := 0, slots := 0, locals := 65 }) [.ref (E.1 (232)), .int (a), .int (b), .int (w)] E μ (sp_X8_cuts μ a b w) := by
  refine mt_of (by decide +kernel) (Nat.le_of_ble_eq_true rfl) ?_
  intro p e s m args below meth c ls hf hr hlocks hl hw
  have hx := hf.1
  have hb := hf.2.1
  have hl : lv_has ls 4 [(0, .ref (E.1 (232))), (1, .int (a)), (2, .int (b)), (3, .int (w))] := hl
  refine lv_aload_n hx hb dX8_cuts_0 rfl (lv_at hl 0 rfl) ?_
  refine lv_iload_n hx hb dX8_cuts_1 rfl (lv_at hl 1 rfl) ?_
  refine lv_iload_n hx hb dX8_cuts_2 rfl (lv_at hl 2 rfl) ?_
  refine c_iR hw (run_V (As := [.int (a), .int (b)]) (rest := []) (np := 2) hf hw (kn_X8_isWire l E _  a b  hI) ⟨gl_V q438 q439 q440 q5 q441, by decide +kernel⟩ ⟨rfl, rfl, Nat.le_of_ble_eq_true rfl, Nat.le_of_ble_eq_true rfl⟩ (by decide) (c_R E _) rfl rfl hl.1 rfl (Nat.le_of_ble_eq_true rfl) dX8_cuts_3 ⟨Nat.zero_le _, Nat.zero_le _⟩) (fun H locs hw => ?_)
  refine lv_if_eq (tgt := 18) hx hb dX8_cuts_6 (by decide) (fun c1 => ?_) (fun c1 => ?_)
  · replace c1 := (bz_0 _).mp c1
    refine lv_ldc hx hb hf.2.2.2.1 (hf.2.2.2.2 _ q154) dX8_cuts_18 ?_
    exact e_i hf hr hlocks hw rfl ((if_neg c1).trans rfl) dX8_cuts_20
  · replace c1 := (bz_n0 _).mp c1
    have c1a := (ni_of hI.2.1 (by decide) c1.1)
    have c1ab : a.toNatClampNeg < 6 := Nat.lt_of_lt_of_le c1a.2 (Nat.le_of_lt_succ hI.2.1.2)
    have c1w := (ni_of (hI.2.2.2 _ c1ab).2.2 (by decide) c1.2)
    have c1wb : b.toNatClampNeg < 4 := Nat.lt_of_lt_of_le c1w.2 (Nat.le_of_lt_succ (hI.2.2.2 _ c1ab).2.2.2)
    refine lv_iload_n hx hb dX8_cuts_9 rfl (lv_at hl 3 rfl) ?_
    refine lv_iconst (v := 0) hx hb dX8_cuts_10 (by decide) ?_
    refine lv_iconst (v := 1) hx hb dX8_cuts_11 (by decide) ?_
    refine c_iR hw (run_S (As := [.int (w), .int 0, .int 1]) (rest := []) (np := 3) hf hw (kn_X8_in l E _  w (0 : Int32) (1 : Int32)  ) ⟨gl_S q207 q208 q5 q209, by decide +kernel⟩ ⟨rfl, rfl, Nat.le_of_ble_eq_true rfl, Nat.le_of_ble_eq_true rfl⟩ rfl hl.1 rfl (Nat.le_of_ble_eq_true rfl) dX8_cuts_12 ⟨Nat.zero_le _, Nat.zero_le _⟩) (fun H locs hw => ?_)
    refine lv_if_ne (tgt := 21) hx hb dX8_cuts_15 (by decide) (fun c2 => ?_) (fun c2 => ?_)
    · replace c2 := (bz_n0 _).mp c2
      have c2a := (na_lit 1 rfl (by decide) c2)
      have c2ab : w.toNatClampNeg < 2 := c2a.2
      refine lv_aload_n hx hb dX8_cuts_21 rfl (lv_at hl 0 rfl) ?_
      refine lv_iload_n hx hb dX8_cuts_22 rfl (lv_at hl 1 rfl) ?_
      refine fold_i (show a = nI (a.toNatClampNeg) from c1a.1) ?_
      refine lv_bipush (v := 12) hx hb dX8_cuts_23 (by decide) ?_
      refine c_iR hw (run_V (As := [.int (nI (a.toNatClampNeg)), .int 12]) (rest := []) (np := 2) hf hw (kn_X8_of l E _  a.toNatClampNeg 12  (show a.toNatClampNeg < 6 from c1ab) (show 12 < 29 from (by decide))) ⟨gl_V q227 q228 q229 q5 q230, by decide +kernel⟩ ⟨rfl, rfl, Nat.le_of_ble_eq_true rfl, Nat.le_of_ble_eq_true rfl⟩ (by decide) (c_R E _) rfl rfl hl.1 rfl (Nat.le_of_ble_eq_true rfl) dX8_cuts_25 ⟨Nat.zero_le _, Nat.zero_le _⟩) (fun H locs hw => ?_)
      refine lv_iload_n hx hb dX8_cuts_28 rfl (lv_at hl 2 rfl) ?_
      refine fold_i (show b = nI (b.toNatClampNeg) from c1w.1) ?_
      refine lv_ishr hx hb dX8_cuts_29 ?_
      refine lv_iconst (v := 1) hx hb dX8_cuts_30 (by decide) ?_
      refine lv_iand hx hb dX8_cuts_31 ?_
      refine lv_iload_n hx hb dX8_cuts_32 rfl (lv_at hl 3 rfl) ?_
      refine fold_i (show w = nI (w.toNatClampNeg) from c2a.1) ?_
      refine lv_icmp_ne (tgt := 39) hx hb dX8_cuts_33 (by decide) (fun c3 => ?_) (fun c3 => ?_)
      · refine lv_aload_n hx hb dX8_cuts_39 rfl (lv_at hl 0 rfl) ?_
        refine lv_iload_n hx hb dX8_cuts_40 rfl (lv_at hl 1 rfl) ?_
        refine fold_i (show a = nI (a.toNatClampNeg) from c1a.1) ?_
        refine lv_bipush (v := 12) hx hb dX8_cuts_41 (by decide) ?_
        refine lv_aload_n hx hb dX8_cuts_43 rfl (lv_at hl 0 rfl) ?_
        refine lv_iload_n hx hb dX8_cuts_44 rfl (lv_at hl 1 rfl) ?_
        refine fold_i (show a = nI (a.toNatClampNeg) from c1a.1) ?_
        refine lv_bipush (v := 12) hx hb dX8_cuts_45 (by decide) ?_
        refine c_iR hw (run_V (As := [.int (nI (a.toNatClampNeg)), .int 12]) (rest := [.int 12, .int (nI (a.toNatClampNeg)), .ref (E.1 (232))]) (np := 2) hf hw (kn_X8_of l E _  a.toNatClampNeg 12  (show a.toNatClampNeg < 6 from c1ab) (show 12 < 29 from (by decide))) ⟨gl_V q227 q228 q229 q5 q230, by decide +kernel⟩ ⟨rfl, rfl, Nat.le_of_ble_eq_true rfl, Nat.le_of_ble_eq_true rfl⟩ (by decide) (c_R E _) rfl rfl hl.1 rfl (Nat.le_of_ble_eq_true rfl) dX8_cuts_47 ⟨Nat.zero_le _, Nat.zero_le _⟩) (fun H locs hw => ?_)
        refine lv_iconst (v := 1) hx hb dX8_cuts_50 (by decide) ?_
        refine lv_iload_n hx hb dX8_cuts_51 rfl (lv_at hl 2 rfl) ?_
        refine fold_i (show b = nI (b.toNatClampNeg) from c1w.1) ?_
        refine lv_ishl hx hb dX8_cuts_52 ?_
        refine lv_ixor hx hb dX8_cuts_53 ?_
        refine c_v hw (run_V (As := [.int (nI (a.toNatClampNeg)), .int 12, .int ((μ.1 8 (85 + 29 * a.toNatClampNeg + 12)) ^^^ ((1 : Int32) <<< ((nI (b.toNatClampNeg)) &&& 31)))]) (rest := []) (np := 3) hf hw (kn_X8_put l E _  a.toNatClampNeg 12 ((μ.1 8 (85 + 29 * a.toNatClampNeg + 12)) ^^^ ((1 : Int32) <<< ((nI (b.toNatClampNeg)) &&& 31)))  (show a.toNatClampNeg < 6 from c1ab) (show 12 < 29 from (by decide))) ⟨gl_V q335 q336 q337 q5 q338, by decide +kernel⟩ ⟨rfl, rfl, Nat.le_of_ble_eq_true rfl, Nat.le_of_ble_eq_true rfl⟩ (by decide) (c_R E _) rfl rfl hl.1 rfl (Nat.le_of_ble_eq_true rfl) dX8_cuts_54 ⟨Nat.zero_le _, Nat.zero_le _⟩) (fun H locs hw => ?_)
        refine lv_aload_n hx hb dX8_cuts_57 rfl (lv_at hl 0 rfl) ?_
        refine lv_iload_n hx hb dX8_cuts_58 rfl (lv_at hl 1 rfl) ?_
        refine fold_i (show a = nI (a.toNatClampNeg) from c1a.1) ?_
        refine lv_bipush (v := 12) hx hb dX8_cuts_59 (by decide) ?_
        refine c_iR hw (run_V (As := [.int (nI (a.toNatClampNeg)), .int 12]) (rest := []) (np := 2) hf hw (kn_X8_of l E _  a.toNatClampNeg 12  (show a.toNatClampNeg < 6 from c1ab) (show 12 < 29 from (by decide))) ⟨gl_V q227 q228 q229 q5 q230, by decide +kernel⟩ ⟨rfl, rfl, Nat.le_of_ble_eq_true rfl, Nat.le_of_ble_eq_true rfl⟩ (by decide) (c_R E _) rfl rfl hl.1 rfl (Nat.le_of_ble_eq_true rfl) dX8_cuts_61 ⟨Nat.zero_le _, Nat.zero_le _⟩) (fun H locs hw => ?_)
        refine fold_i (y := (((μ.1 8 (85 + 29 * a.toNatClampNeg + 12)) ^^^ ((1 : Int32) <<< ((nI (b.toNatClampNeg)) &&& 31))))) (by first | rfl | (simp [pM, pJ, upM, upJ, upM_r, tk_M, tk_K, tk_0, tk_1, tk_2, tk_3, tk_4, tk_5, tk_6, tk_7, tk_8, tk_9, tk_10, tk_o, ms_0_0, ms_0_1, ms_0_2, ms_0_3, ms_0_4, ms_0_5, ms_0_6, ms_0_7, ms_0_8, ms_0_9, ms_0_10, ms_1_0, ms_1_1, ms_1_2, ms_1_3, ms_1_4, ms_1_5, ms_1_6, ms_1_7, ms_1_8, ms_1_9, ms_1_10, ms_w, ms_r, ms_d, ms_M, ms_6, ms_K, pC_row]; done) | (simp (disch := (first | omega | (simp only [tN, tD, tR, sF]; omega))) only [pM, pJ, upM_s, upM_k, upM_c, upJ_s, upJ_k, upJ_c, tk_M, tk_K, tk_0, tk_1, tk_2, tk_3, tk_4, tk_5, tk_6, tk_7, tk_8, tk_9, tk_10, tk_o, ms_0_0, ms_0_1, ms_0_2, ms_0_3, ms_0_4, ms_0_5, ms_0_6, ms_0_7, ms_0_8, ms_0_9, ms_0_10, ms_1_0, ms_1_1, ms_1_2, ms_1_3, ms_1_4, ms_1_5, ms_1_6, ms_1_7, ms_1_8, ms_1_9, ms_1_10, ms_w, ms_r, ms_d, ms_M, ms_6, ms_K, pC_row]; done) | rfl) ?_
        refine c_iR hw (run_S (As := [.int ((((μ.1 8 (85 + 29 * a.toNatClampNeg + 12)) ^^^ ((1 : Int32) <<< ((nI (b.toNatClampNeg)) &&& 31)))))]) (rest := []) (np := 1) hf hw (k_X8_bits l E _  (((μ.1 8 (85 + 29 * a.toNatClampNeg + 12)) ^^^ ((1 : Int32) <<< ((nI (b.toNatClampNeg)) &&& 31))))  ) ⟨gl_S q492 q493 q5 q494, by decide +kernel⟩ ⟨rfl, rfl, Nat.le_of_ble_eq_true rfl, Nat.le_of_ble_eq_true rfl⟩ rfl hl.1 rfl (Nat.le_of_ble_eq_true rfl) dX8_cuts_64 ⟨Nat.zero_le _, Nat.zero_le _⟩) (fun H locs hw => ?_)
        refine fold_i (y := sp_X8_bits   (((μ.1 8 (85 + 29 * a.toNatClampNeg + 12)) ^^^ ((1 : Int32) <<< ((nI (b.toNatClampNeg)) &&& 31))))) (by first | rfl | (simp [pM, pJ, upM_r, upM_rr, tk_M, tk_K, tk_0, tk_1, tk_2, tk_3, tk_4, tk_5, tk_6, tk_7, tk_8, tk_9, tk_10, tk_o, ms_0_0, ms_0_1, ms_0_2, ms_0_3, ms_0_4, ms_0_5, ms_0_6, ms_0_7, ms_0_8, ms_0_9, ms_0_10, ms_1_0, ms_1_1, ms_1_2, ms_1_3, ms_1_4, ms_1_5, ms_1_6, ms_1_7, ms_1_8, ms_1_9, ms_1_10, ms_w, ms_r, ms_d, ms_M, ms_6, ms_K, pC_row]; done)) ?_
        exact e_i hf hr hlocks hw rfl ((if_pos c1).trans ((if_pos c2).trans ((if_neg c3).trans rfl))) dX8_cuts_67
      · refine lv_ldc hx hb hf.2.2.2.1 (hf.2.2.2.2 _ q202) dX8_cuts_36 ?_
        exact e_i hf hr hlocks hw rfl ((if_pos c1).trans ((if_pos c2).trans ((if_pos c3).trans rfl))) dX8_cuts_38
    · replace c2 := (bz_0 _).mp c2
      refine lv_ldc hx hb hf.2.2.2.1 (hf.2.2.2.2 _ q154) dX8_cuts_18 ?_
      exact e_i hf hr hlocks hw rfl ((if_pos c1).trans ((if_neg c2).trans rfl)) dX8_cuts_20
theorem s7_X8_cuts {x : Int32} (μ : Mu)  (a : Int32) (b : Int32) (w : Int32)  (hh : S7 x μ) : S7 x ((sp_X8_cuts μ a b w).2) := by
  unfold sp_X8_cuts
  exact (s7_ite (s7_ite (s7_ite (s7_lf hh) (s7_lf (s7_pM (by decide) hh))) (s7_lf hh)) (s7_lf hh))
def sp_X8_cut (μ : Mu)  (a : Int32) (b : Int32) (w : Int32) : Int32 × Mu :=
  ((sp_X8_acted ((sp_X8_cuts (pC μ 11 0 8 0 259)  a b w).2)  ((sp_X8_cuts (pC μ 11 0 8 0 259)  a b w).1)).1, (sp_X8_acted ((sp_X8_cuts (pC μ 11 0 8 0 259)  a b w).2)  ((sp_X8_cuts (pC μ 11 0 8 0 259)  a b w).1)).2)
set_option maxHeartbeats 4000000 in
set_option maxRecDepth 100000 in
theorem k_X8_cut (l : Launch) (E : En) (μ : Mu)  (a : Int32) (b : Int32) (w : Int32) (hI : RI (μ.1 8)) (hst : ni 5 (μ.1 7 0)) : MtI l yX8_cut cX8_cut 4 .int ({ frames := 4, cells := 0, slots := 0, locals := 88 }) [.ref (E.1 (232)), .int (a), .int (b), .int (w)] E μ (sp_X8_cut μ a b w) := by
  refine mt_of (by decide +kernel) (Nat.le_of_ble_eq_true rfl) ?_
  intro p e s m args below meth c ls hf hr hlocks hl hw
  have hx := hf.1
  have hb := hf.2.1
  have hl : lv_has ls 4 [(0, .ref (E.1 (232))), (1, .int (a)), (2, .int (b)), (3, .int (w))] := hl
  refine lv_aload_n hx hb dX8_cut_0 rfl (lv_at hl 0 rfl) ?_
  refine c_v hw (run_V (As := []) (rest := []) (np := 0) hf hw (kn_X8_keeps l E _    ) ⟨gl_V q146 q147 q148 q5 q149, by decide +kernel⟩ ⟨rfl, rfl, Nat.le_of_ble_eq_true rfl, Nat.le_of_ble_eq_true rfl⟩ (by decide) (c_R E _) rfl rfl hl.1 rfl (Nat.le_of_ble_eq_true rfl) dX8_cut_1 ⟨Nat.zero_le _, Nat.zero_le _⟩) (fun H locs hw => ?_)
  refine lv_aload_n hx hb dX8_cut_4 rfl (lv_at hl 0 rfl) ?_
  refine lv_aload_n hx hb dX8_cut_5 rfl (lv_at hl 0 rfl) ?_
  refine lv_iload_n hx hb dX8_cut_6 rfl (lv_at hl 1 rfl) ?_
  refine lv_iload_n hx hb dX8_cut_7 rfl (lv_at hl 2 rfl) ?_
  refine lv_iload_n hx hb dX8_cut_8 rfl (lv_at hl 3 rfl) ?_
  refine c_i hw (run_V (As := [.int (a), .int (b), .int (w)]) (rest := [.ref (E.1 (232))]) (np := 3) hf hw (k_X8_cuts l E _  a b w  (by first | exact hI | (simp only [pC_row (show (8 : Nat) ≠ 11 by decide)]; exact hI))) ⟨gl_V q488 q489 q490 q5 q491, by decide +kernel⟩ ⟨rfl, rfl, Nat.le_of_ble_eq_true rfl, Nat.le_of_ble_eq_true rfl⟩ (by decide) (c_R E _) rfl rfl hl.1 rfl (Nat.le_of_ble_eq_true rfl) dX8_cut_9 ⟨Nat.zero_le _, Nat.zero_le _⟩) (fun H locs hw => ?_)
  refine c_i hw (run_V (As := [.int ((sp_X8_cuts (pC μ 11 0 8 0 259)  a b w).1)]) (rest := []) (np := 1) hf hw (k_X8_acted l E _  ((sp_X8_cuts (pC μ 11 0 8 0 259)  a b w).1)  (s7_ni (x := μ.1 7 0) (s7_X8_cuts (pC μ 11 0 8 0 259) a b w  (s7_pC (by decide) (rfl : S7 (μ.1 7 0) μ))) hst)) ⟨gl_V q150 q151 q152 q5 q153, by decide +kernel⟩ ⟨rfl, rfl, Nat.le_of_ble_eq_true rfl, Nat.le_of_ble_eq_true rfl⟩ (by decide) (c_R E _) rfl rfl hl.1 rfl (Nat.le_of_ble_eq_true rfl) dX8_cut_12 ⟨Nat.zero_le _, Nat.zero_le _⟩) (fun H locs hw => ?_)
  exact e_i hf hr hlocks hw rfl rfl dX8_cut_15
def sp_X8_clearText (μ : Mu)   : Int32 × Mu :=
  (μ.1 7 1, pM μ 7 1 (0 : Int32))
set_option maxHeartbeats 4000000 in
set_option maxRecDepth 100000 in
theorem k_X8_clearText (l : Launch) (E : En) (μ : Mu)    : MtI l yX8_clearText cX8_clearText 2 .int ({ frames := 0, cells := 0, slots := 0, locals := 0 }) [.ref (E.1 (232))] E μ (sp_X8_clearText μ ) := by
  refine mt_of (by decide +kernel) (Nat.le_of_ble_eq_true rfl) ?_
  intro p e s m args below meth c ls hf hr hlocks hl hw
  have hx := hf.1
  have hb := hf.2.1
  have hl : lv_has ls 2 [(0, .ref (E.1 (232)))] := hl
  refine lv_aload_n hx hb dX8_clearText_0 rfl (lv_at hl 0 rfl) ?_
  refine g_f hw hf (by decide) (c_R E _) rfl inlX8 6 (by decide) rfl q896 rfl dX8_clearText_1 ?_
  refine lv_istore_n (lv' := [(1, .int (μ.1 7 1)), (0, .ref (E.1 (232)))]) hx hb dX8_clearText_4 rfl hl (by decide) rfl (fun ls hl => ?_)
  refine lv_aload_n hx hb dX8_clearText_5 rfl (lv_at hl 1 rfl) ?_
  refine lv_iconst (v := 0) hx hb dX8_clearText_6 (by decide) ?_
  refine p_f hw hf (by decide) (c_R E _) rfl inlX8 tyX8_ok nmX8 6 (by decide) rfl q896 rfl rfl rfl (Nat.le_of_ble_eq_true rfl) (s_R_6 E _ _) dX8_clearText_7 (fun H locs hw => ?_)
  refine lv_iload_n hx hb dX8_clearText_10 rfl (lv_at hl 0 rfl) ?_
  exact e_i hf hr hlocks hw rfl rfl dX8_clearText_11
def sp_X8_type (μ : Mu)  (a : Int32) : Int32 × Mu :=
  if (32 : Int32) ≤ a ∧ a ≤ (126 : Int32) then
    if (nI ((μ.1 7 1).toNatClampNeg) : Int32) = 60 then
      ((-2000000003), μ)
    else
      (nI ((μ.1 7 1).toNatClampNeg + 1), pM (pM μ 12 ((μ.1 7 1).toNatClampNeg) ((a.toUInt32 % 65536).toInt32)) 7 1 (nI ((μ.1 7 1).toNatClampNeg + 1)))
  else
    ((-2000000001), μ)
set_option maxHeartbeats 4000000 in
set_option maxRecDepth 100000 in
theorem k_X8_type (l : Launch) (E : En) (μ : Mu)  (a : Int32) (hty : ni 61 (μ.1 7 1)) : MtI l yX8_type cX8_type 2 .int ({ frames := 1, cells := 0, slots := 0, locals := 22 }) [.ref (E.1 (232)), .int (a)] E μ (sp_X8_type μ a) := by
  refine mt_of (by decide +kernel) (Nat.le_of_ble_eq_true rfl) ?_
  intro p e s m args below meth c ls hf hr hlocks hl hw
  have hx := hf.1
  have hb := hf.2.1
  have hl : lv_has ls 2 [(0, .ref (E.1 (232))), (1, .int (a))] := hl
  refine lv_iload_n hx hb dX8_type_0 rfl (lv_at hl 1 rfl) ?_
  refine lv_bipush (v := 32) hx hb dX8_type_1 (by decide) ?_
  refine lv_bipush (v := 126) hx hb dX8_type_3 (by decide) ?_
  refine c_iR hw (run_S (As := [.int (a), .int 32, .int 126]) (rest := []) (np := 3) hf hw (kn_X8_in l E _  a (32 : Int32) (126 : Int32)  ) ⟨gl_S q207 q208 q5 q209, by decide +kernel⟩ ⟨rfl, rfl, Nat.le_of_ble_eq_true rfl, Nat.le_of_ble_eq_true rfl⟩ rfl hl.1 rfl (Nat.le_of_ble_eq_true rfl) dX8_type_5 ⟨Nat.zero_le _, Nat.zero_le _⟩) (fun H locs hw => ?_)
  refine lv_if_ne (tgt := 14) hx hb dX8_type_8 (by decide) (fun c1 => ?_) (fun c1 => ?_)
  · replace c1 := (bz_n0 _).mp c1
    refine lv_aload_n hx hb dX8_type_14 rfl (lv_at hl 0 rfl) ?_
    refine g_f hw hf (by decide) (c_R E _) rfl inlX8 6 (by decide) rfl q896 rfl dX8_type_15 ?_
    have hb2 := hty.2
    refine fold_i (show μ.1 7 1 = nI ((μ.1 7 1).toNatClampNeg) from hty.1) ?_
    refine lv_bipush (v := 60) hx hb dX8_type_18 (by decide) ?_
    refine lv_icmp_ne (tgt := 26) hx hb dX8_type_20 (by decide) (fun c3 => ?_) (fun c3 => ?_)
    · have c3n : ¬ ((μ.1 7 1).toNatClampNeg) = 60 := by have q := (nI_eq (a := ((μ.1 7 1).toNatClampNeg)) (b := 60) (by omega) (by omega)); first | exact q.mp c3 | exact fun z => c3 (q.mpr z)
      refine lv_aload_n hx hb dX8_type_26 rfl (lv_at hl 0 rfl) ?_
      refine g_f hw hf (by decide) (c_R E _) rfl inlX8 5 (by decide) rfl q94 rfl dX8_type_27 ?_
      refine lv_aload_n hx hb dX8_type_30 rfl (lv_at hl 0 rfl) ?_
      refine g_f hw hf (by decide) (c_R E _) rfl inlX8 6 (by decide) rfl q896 rfl dX8_type_31 ?_
      refine fold_i (show μ.1 7 1 = nI ((μ.1 7 1).toNatClampNeg) from hty.1) ?_
      refine lv_iload_n hx hb dX8_type_34 rfl (lv_at hl 1 rfl) ?_
      refine lv_i2c hx hb dX8_type_35 rfl ?_
      refine p_c hw hf (by decide) (c_Rt E _) (ch_vp (ch_i2c _)) (vp_in_nI (show (μ.1 7 1).toNatClampNeg < 60 from (by omega)) (by decide)) (by rw [show (nI ((μ.1 7 1).toNatClampNeg)).toNatClampNeg = (μ.1 7 1).toNatClampNeg from (nI_clamp (Nat.lt_trans (show (μ.1 7 1).toNatClampNeg < 60 from (by omega)) (by decide)))]; exact (s_Rt E _ (by omega) _)) dX8_type_36 (fun H locs hw => ?_)
      refine lv_aload_n hx hb dX8_type_37 rfl (lv_at hl 0 rfl) ?_
      refine lv_dup hx hb dX8_type_38 rfl ?_
      refine g_f hw hf (by decide) (c_R E _) rfl inlX8 6 (by decide) rfl q896 (congrArg (fun z => some (Value.int z)) (show _ = μ.1 7 1 from (by first | (simp [pM, pJ, upM, upJ, sF, tN, tD, tR, tk_M, tk_K, tk_0, tk_1, tk_2, tk_3, tk_4, tk_5, tk_6, tk_7, tk_8, tk_9, tk_10, tk_o, ms_0_0, ms_0_1, ms_0_2, ms_0_3, ms_0_4, ms_0_5, ms_0_6, ms_0_7, ms_0_8, ms_0_9, ms_0_10, ms_1_0, ms_1_1, ms_1_2, ms_1_3, ms_1_4, ms_1_5, ms_1_6, ms_1_7, ms_1_8, ms_1_9, ms_1_10, ms_w, ms_r, ms_d, ms_M, ms_6, ms_K, pC_row]; done) | (simp (disch := (first | omega | (simp only [tN, tD, tR, sF]; omega))) only [pM, pJ, upM_s, upM_k, upM_c, upJ_s, upJ_k, upJ_c, tk_M, tk_K, tk_0, tk_1, tk_2, tk_3, tk_4, tk_5, tk_6, tk_7, tk_8, tk_9, tk_10, tk_o, ms_0_0, ms_0_1, ms_0_2, ms_0_3, ms_0_4, ms_0_5, ms_0_6, ms_0_7, ms_0_8, ms_0_9, ms_0_10, ms_1_0, ms_1_1, ms_1_2, ms_1_3, ms_1_4, ms_1_5, ms_1_6, ms_1_7, ms_1_8, ms_1_9, ms_1_10, ms_w, ms_r, ms_d, ms_M, ms_6, ms_K, pC_row])))) dX8_type_39 ?_
      refine fold_i (show μ.1 7 1 = nI ((μ.1 7 1).toNatClampNeg) from hty.1) ?_
      refine lv_iconst (v := 1) hx hb dX8_type_42 (by decide) ?_
      refine lv_iadd hx hb dX8_type_43 ?_
      refine fold_i (show nI ((μ.1 7 1).toNatClampNeg) + (1 : Int32) = nI ((μ.1 7 1).toNatClampNeg + 1) from nI_add ((μ.1 7 1).toNatClampNeg) (1)) ?_
      refine p_f hw hf (by decide) (c_R E _) rfl inlX8 tyX8_ok nmX8 6 (by decide) rfl q896 rfl rfl rfl (Nat.le_of_ble_eq_true rfl) (s_R_6 E _ _) dX8_type_44 (fun H locs hw => ?_)
      refine lv_aload_n hx hb dX8_type_47 rfl (lv_at hl 0 rfl) ?_
      refine g_f hw hf (by decide) (c_R E _) rfl inlX8 6 (by decide) rfl q896 (congrArg (fun z => some (Value.int z)) (show _ = nI ((μ.1 7 1).toNatClampNeg + 1) from (by first | (simp [pM, pJ, upM, upJ, sF, tN, tD, tR, tk_M, tk_K, tk_0, tk_1, tk_2, tk_3, tk_4, tk_5, tk_6, tk_7, tk_8, tk_9, tk_10, tk_o, ms_0_0, ms_0_1, ms_0_2, ms_0_3, ms_0_4, ms_0_5, ms_0_6, ms_0_7, ms_0_8, ms_0_9, ms_0_10, ms_1_0, ms_1_1, ms_1_2, ms_1_3, ms_1_4, ms_1_5, ms_1_6, ms_1_7, ms_1_8, ms_1_9, ms_1_10, ms_w, ms_r, ms_d, ms_M, ms_6, ms_K, pC_row]; done) | (simp (disch := (first | omega | (simp only [tN, tD, tR, sF]; omega))) only [pM, pJ, upM_s, upM_k, upM_c, upJ_s, upJ_k, upJ_c, tk_M, tk_K, tk_0, tk_1, tk_2, tk_3, tk_4, tk_5, tk_6, tk_7, tk_8, tk_9, tk_10, tk_o, ms_0_0, ms_0_1, ms_0_2, ms_0_3, ms_0_4, ms_0_5, ms_0_6, ms_0_7, ms_0_8, ms_0_9, ms_0_10, ms_1_0, ms_1_1, ms_1_2, ms_1_3, ms_1_4, ms_1_5, ms_1_6, ms_1_7, ms_1_8, ms_1_9, ms_1_10, ms_w, ms_r, ms_d, ms_M, ms_6, ms_K, pC_row])))) dX8_type_48 ?_
      exact e_i hf hr hlocks hw rfl ((if_pos c1).trans ((if_neg c3).trans rfl)) dX8_type_51
    · have c3n : ((μ.1 7 1).toNatClampNeg) = 60 := by have q := (nI_eq (a := ((μ.1 7 1).toNatClampNeg)) (b := 60) (by omega) (by omega)); first | exact q.mp c3 | exact fun z => c3 (q.mpr z)
      refine lv_ldc hx hb hf.2.2.2.1 (hf.2.2.2.2 _ q145) dX8_type_23 ?_
      exact e_i hf hr hlocks hw rfl ((if_pos c1).trans ((if_pos c3).trans rfl)) dX8_type_25
  · replace c1 := (bz_0 _).mp c1
    refine lv_ldc hx hb hf.2.2.2.1 (hf.2.2.2.2 _ q154) dX8_type_11 ?_
    exact e_i hf hr hlocks hw rfl ((if_neg c1).trans rfl) dX8_type_13
theorem ni_decn {m : Mu} (h : ni 5 (m.1 7 0)) (c : ¬ (m.1 7 0).toNatClampNeg = 0) : ni 4 ((pM m 7 0 (nI ((m.1 7 0).toNatClampNeg - 1))).1 7 0) := by
  have e : (pM m 7 0 (nI ((m.1 7 0).toNatClampNeg - 1))).1 7 0 = nI ((m.1 7 0).toNatClampNeg - 1) := by simp [pM, upM]
  have h2 := h.2
  rw [e]
  unfold ni
  rw [nI_clamp (by omega)]
  exact ⟨rfl, by omega⟩
def lp_X8_undo_22 (μ : Mu)   : Nat → Nat → Mu → Int32 × Mu
  | 0, _, μ1 => (0, μ1)
  | f + 1, k, μ1 =>
    if (259 : Int32) ≤ nI k then
      (nI (((μ1).1 7 0).toNatClampNeg), μ1)
    else
      lp_X8_undo_22 μ  f (k + 1) (pM μ1 8 k ((μ1).1 9 (259 * (((μ1).1 7 0).toNatClampNeg) + k)))
def sp_X8_undo (μ : Mu)   : Int32 × Mu :=
  if (nI ((μ.1 7 0).toNatClampNeg) : Int32) = 0 then
    ((-2000000002), μ)
  else
    lp_X8_undo_22 μ  260 0 (pM μ 7 0 (nI ((μ.1 7 0).toNatClampNeg - 1)))
set_option maxHeartbeats 4000000 in
set_option maxRecDepth 100000 in
theorem k_X8_undo (l : Launch) (E : En) (μ : Mu)   (hst : ni 5 (μ.1 7 0)) : MtI l yX8_undo cX8_undo 2 .int ({ frames := 0, cells := 0, slots := 0, locals := 0 }) [.ref (E.1 (232))] E μ (sp_X8_undo μ ) := by
  refine mt_of (by decide +kernel) (Nat.le_of_ble_eq_true rfl) ?_
  intro p e s m args below meth c ls hf hr hlocks hl hw
  have hx := hf.1
  have hb := hf.2.1
  have hl : lv_has ls 2 [(0, .ref (E.1 (232)))] := hl
  have hstb := hst.2
  refine lv_aload_n hx hb dX8_undo_0 rfl (lv_at hl 0 rfl) ?_
  refine g_f hw hf (by decide) (c_R E _) rfl inlX8 4 (by decide) rfl q155 rfl dX8_undo_1 ?_
  have hb1 := hst.2
  refine fold_i (show μ.1 7 0 = nI ((μ.1 7 0).toNatClampNeg) from hst.1) ?_
  refine lv_if_ne (tgt := 10) hx hb dX8_undo_4 (by decide) (fun c2 => ?_) (fun c2 => ?_)
  · have c2n : ¬ ((μ.1 7 0).toNatClampNeg) = 0 := by have q := (nI_eq (a := ((μ.1 7 0).toNatClampNeg)) (b := 0) (by omega) (by omega)); first | exact q.mp c2 | exact fun z => c2 (q.mpr z)
    refine lv_aload_n hx hb dX8_undo_10 rfl (lv_at hl 0 rfl) ?_
    refine lv_dup hx hb dX8_undo_11 rfl ?_
    refine g_f hw hf (by decide) (c_R E _) rfl inlX8 4 (by decide) rfl q155 rfl dX8_undo_12 ?_
    refine fold_i (show μ.1 7 0 = nI ((μ.1 7 0).toNatClampNeg) from hst.1) ?_
    refine lv_iconst (v := 1) hx hb dX8_undo_15 (by decide) ?_
    refine lv_isub hx hb dX8_undo_16 ?_
    refine fold_i (show nI ((μ.1 7 0).toNatClampNeg) - 1 = nI ((μ.1 7 0).toNatClampNeg - 1) from pk_sub (a := (μ.1 7 0).toNatClampNeg) (b := 1) (by omega)) ?_
    refine p_f hw hf (by decide) (c_R E _) rfl inlX8 tyX8_ok nmX8 4 (by decide) rfl q155 rfl rfl rfl (Nat.le_of_ble_eq_true rfl) (s_R_4 E _ _) dX8_undo_17 (fun H locs hw => ?_)
    refine lv_iconst (v := 0) hx hb dX8_undo_20 (by decide) ?_
    refine lv_istore_n (lv' := [(1, .int 0), (0, .ref (E.1 (232)))]) hx hb dX8_undo_21 rfl hl (by decide) rfl (fun ls hl => ?_)
    have key_22 : ∀ (f : Nat) (k : Nat) (μ1 : Mu), k + f = 260 → k ≤ 259 → ni 4 (μ1.1 7 0) → sp_X8_undo μ  = lp_X8_undo_22 μ  f k μ1 → ∀ (ls : Array Slot) (H : Heap) (locs : List Loc), lv_has ls 2 [(0, .ref (E.1 (232))), (1, .int (nI k))] → Wk E μ1 s H locs → W p l e ({ frames := 0, cells := 0, slots := 0, locals := 0 }) s m args below meth c H locs 0 0 (MQ below (va_Qi (fun r u => r = ((sp_X8_undo μ )).1 ∧ u = ((sp_X8_undo μ )).2) (fun u t => WdU E u t) (inE E)) args s 0 0 (inE E)) (F0 m 22 ls []) := by
      intro f
      induction f with
      | zero => intro k μ1 h1 h2 h3 hq ls H locs hl hw; exfalso; omega
      | succ f ih =>
        intro k μ1 h1 h2 h3 hq ls H locs hl hw
        have h3b := h3.2
        refine lv_iload_n hx hb dX8_undo_22 rfl (lv_at hl 1 rfl) ?_
        refine lv_sipush (v := 259) hx hb dX8_undo_23 (by decide) ?_
        refine lv_icmp_ge (tgt := 56) hx hb dX8_undo_26 (by decide) (fun c3 => ?_) (fun c3 => ?_)
        · have c3n : 259 ≤ k := by have q := (nI_leI (a := 259) (b := k) (by omega) (by omega)); first | exact q.mp c3 | exact fun z => c3 (q.mpr z)
          refine lv_aload_n hx hb dX8_undo_56 rfl (lv_at hl 0 rfl) ?_
          refine g_f hw hf (by decide) (c_R E _) rfl inlX8 4 (by decide) rfl q155 rfl dX8_undo_57 ?_
          have hb4 := h3.2
          refine fold_i (show (μ1).1 7 0 = nI (((μ1).1 7 0).toNatClampNeg) from h3.1) ?_
          exact e_i hf hr hlocks hw rfl ((hq).trans ((if_pos c3).trans rfl)) dX8_undo_60
        · have c3n : ¬ 259 ≤ k := by have q := (nI_leI (a := 259) (b := k) (by omega) (by omega)); first | exact q.mp c3 | exact fun z => c3 (q.mpr z)
          refine lv_aload_n hx hb dX8_undo_29 rfl (lv_at hl 0 rfl) ?_
          refine g_f hw hf (by decide) (c_R E _) rfl inlX8 0 (by decide) rfl q90 rfl dX8_undo_30 ?_
          refine lv_iload_n hx hb dX8_undo_33 rfl (lv_at hl 1 rfl) ?_
          refine lv_aload_n hx hb dX8_undo_34 rfl (lv_at hl 0 rfl) ?_
          refine g_f hw hf (by decide) (c_R E _) rfl inlX8 1 (by decide) rfl q91 rfl dX8_undo_35 ?_
          refine lv_sipush (v := 259) hx hb dX8_undo_38 (by decide) ?_
          refine lv_aload_n hx hb dX8_undo_41 rfl (lv_at hl 0 rfl) ?_
          refine g_f hw hf (by decide) (c_R E _) rfl inlX8 4 (by decide) rfl q155 rfl dX8_undo_42 ?_
          have hb5 := h3.2
          refine fold_i (show (μ1).1 7 0 = nI (((μ1).1 7 0).toNatClampNeg) from h3.1) ?_
          refine lv_imul hx hb dX8_undo_45 ?_
          refine fold_i (show (259 : Int32) * nI (((μ1).1 7 0).toNatClampNeg) = nI (259 * (((μ1).1 7 0).toNatClampNeg)) from pk_mul (259) (((μ1).1 7 0).toNatClampNeg)) ?_
          refine lv_iload_n hx hb dX8_undo_46 rfl (lv_at hl 1 rfl) ?_
          refine lv_iadd hx hb dX8_undo_47 ?_
          refine fold_i (show nI (259 * (((μ1).1 7 0).toNatClampNeg)) + nI k = nI (259 * (((μ1).1 7 0).toNatClampNeg) + k) from nI_add (259 * (((μ1).1 7 0).toNatClampNeg)) (k)) ?_
          refine g_a hw hf (by decide) (c_Rw E _) (vp_in_nI (show 259 * (((μ1).1 7 0).toNatClampNeg) + k < 1036 from (by omega)) (by decide)) (tr_at (y := 259 * (((μ1).1 7 0).toNatClampNeg) + k) (by omega) (nI_clamp (Nat.lt_trans (show 259 * (((μ1).1 7 0).toNatClampNeg) + k < 1036 from (by omega)) (by decide)))) dX8_undo_48 ?_
          refine p_a hw hf (by decide) (c_Rs E _) (vp_in_nI (show k < 259 from (by omega)) (by decide)) (by rw [show (nI k).toNatClampNeg = k from (nI_clamp (Nat.lt_trans (show k < 259 from (by omega)) (by decide)))]; exact (s_Rs E _ (by omega) _)) dX8_undo_49 (fun H locs hw => ?_)
          refine lv_iinc (v := nI (k + 1)) (lv' := [(1, .int (nI (k + 1))), (0, .ref (E.1 (232)))]) hx hb dX8_undo_50 hl (k := 1) rfl (nI_1 _) (by decide) rfl (fun ls hl => ?_)
          refine lv_goto (tgt := 22) hx hb dX8_undo_53 (by decide) ?_
          exact ih (k + 1) (pM μ1 8 k ((μ1).1 9 (259 * (((μ1).1 7 0).toNatClampNeg) + k))) (by omega) (by omega) (by rw [pM_row (by decide)]; exact h3) (((hq).trans ((if_neg c3).trans rfl))) _ _ _ (lv_sub hl [1, 0] rfl) hw
    exact key_22 260 0 (pM μ 7 0 (nI ((μ.1 7 0).toNatClampNeg - 1))) (by omega) (by omega) (ni_decn hst c2n) (((if_neg c2).trans rfl)) _ _ _ (lv_sub hl [1, 0] rfl) hw
  · have c2n : ((μ.1 7 0).toNatClampNeg) = 0 := by have q := (nI_eq (a := ((μ.1 7 0).toNatClampNeg)) (b := 0) (by omega) (by omega)); first | exact q.mp c2 | exact fun z => c2 (q.mpr z)
    refine lv_ldc hx hb hf.2.2.2.1 (hf.2.2.2.2 _ q202) dX8_undo_7 ?_
    exact e_i hf hr hlocks hw rfl ((if_pos c2).trans rfl) dX8_undo_9
