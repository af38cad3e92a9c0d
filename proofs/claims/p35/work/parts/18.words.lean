/-! ===== OhmBridge: small words ===== -/
def sp_X7_isWithin   (v : Int64) (a : Int64) (b : Int64) : Int32 :=
  if (v : Int64) < a then
    0
  else
    if (b : Int64) < v then
      0
    else
      1
set_option maxHeartbeats 4000000 in
set_option maxRecDepth 100000 in
theorem k_X7_isWithin (l : Launch) (E : En) (μ : Mu)  (v : Int64) (a : Int64) (b : Int64)  : MtI l yX7_isWithin cX7_isWithin 6 .boolean ({ frames := 0, cells := 0, slots := 0, locals := 0 }) [.long (v), .long (a), .long (b)] E μ ((sp_X7_isWithin  v a b), μ) := by
  refine mt_of (by decide +kernel) (Nat.le_of_ble_eq_true rfl) ?_
  intro p e s m args below meth c ls hf hr hlocks hl hw
  have hx := hf.1
  have hb := hf.2.1
  have hl : lv_has ls 6 [(0, .long (v)), (2, .long (a)), (4, .long (b))] := hl
  refine lv_lload_n hx hb dX7_isWithin_0 rfl (lv_at hl 0 rfl) ?_
  refine lv_lload_n hx hb dX7_isWithin_1 rfl (lv_at hl 1 rfl) ?_
  refine W.lcmp hx hb dX7_isWithin_2 ?_
  refine lv_if_lt (tgt := 17) hx hb dX7_isWithin_3 (by decide) (fun c1 => ?_) (fun c1 => ?_)
  · replace c1 := (lg_cmp_lt _ _).mp c1
    refine lv_iconst (v := 0) hx hb dX7_isWithin_17 (by decide) ?_
    exact e_i hf hr hlocks hw rfl (congrArg (fun z => (z, μ)) ((if_pos c1).trans rfl)) dX7_isWithin_18
  · replace c1 := mt (lg_cmp_lt _ _).mpr c1
    refine lv_lload_n hx hb dX7_isWithin_6 rfl (lv_at hl 0 rfl) ?_
    refine lv_lload hx hb dX7_isWithin_7 (lv_at hl 2 rfl) ?_
    refine W.lcmp hx hb dX7_isWithin_9 ?_
    refine lv_if_gt (tgt := 17) hx hb dX7_isWithin_10 (by decide) (fun c2 => ?_) (fun c2 => ?_)
    · replace c2 := (lg_cmp_gt _ _).mp c2
      refine lv_iconst (v := 0) hx hb dX7_isWithin_17 (by decide) ?_
      exact e_i hf hr hlocks hw rfl (congrArg (fun z => (z, μ)) ((if_neg c1).trans ((if_pos c2).trans rfl))) dX7_isWithin_18
    · replace c2 := mt (lg_cmp_gt _ _).mpr c2
      refine lv_iconst (v := 1) hx hb dX7_isWithin_13 (by decide) ?_
      refine lv_goto (tgt := 18) hx hb dX7_isWithin_14 (by decide) ?_
      exact e_i hf hr hlocks hw rfl (congrArg (fun z => (z, μ)) ((if_neg c1).trans ((if_neg c2).trans rfl))) dX7_isWithin_18
theorem n_X7_isWithin (μ : Mu)  (v : Int64) (a : Int64) (b : Int64)  : (sp_X7_isWithin  v a b) = bz (a ≤ v ∧ v ≤ b) := by
  unfold sp_X7_isWithin bz
  repeat' (first | rfl | split)
  all_goals (first | (exfalso; simp_all; done) | (exfalso; simp only [Int64.le_iff_toInt_le, Int64.lt_iff_toInt_lt] at *; omega))
theorem kn_X7_isWithin (l : Launch) (E : En) (μ : Mu)  (v : Int64) (a : Int64) (b : Int64)  : MtI l yX7_isWithin cX7_isWithin 6 .boolean ({ frames := 0, cells := 0, slots := 0, locals := 0 }) [.long (v), .long (a), .long (b)] E μ (bz (a ≤ v ∧ v ≤ b), μ) := by
  rw [← n_X7_isWithin μ v a b ]
  exact k_X7_isWithin l E μ  v a b 
def sp_X7_isTemperature   (w : Int32) : Int32 :=
  bz (((-200000) : Int64) ≤ (w.toInt64) ∧ (w.toInt64) ≤ (850000 : Int64))
set_option maxHeartbeats 4000000 in
set_option maxRecDepth 100000 in
theorem k_X7_isTemperature (l : Launch) (E : En) (μ : Mu)  (w : Int32)  : MtI l yX7_isTemperature cX7_isTemperature 1 .boolean ({ frames := 1, cells := 0, slots := 0, locals := 25 }) [.int (w)] E μ ((sp_X7_isTemperature  w), μ) := by
  refine mt_of (by decide +kernel) (Nat.le_of_ble_eq_true rfl) ?_
  intro p e s m args below meth c ls hf hr hlocks hl hw
  have hx := hf.1
  have hb := hf.2.1
  have hl : lv_has ls 1 [(0, .int (w))] := hl
  refine lv_iload_n hx hb dX7_isTemperature_0 rfl (lv_at hl 0 rfl) ?_
  refine lv_i2l hx hb dX7_isTemperature_1 rfl ?_
  refine lv_ldc2 hx hb hf.2.2.2.1 (hf.2.2.2.2 _ q175) dX7_isTemperature_2 ?_
  refine lv_ldc2 hx hb hf.2.2.2.1 (hf.2.2.2.2 _ q176) dX7_isTemperature_5 ?_
  refine c_iR hw (run_S (As := [.long (w.toInt64), .long ((-200000)), .long (850000)]) (rest := []) (np := 3) hf hw (kn_X7_isWithin l E _  (w.toInt64) ((-200000) : Int64) (850000 : Int64)  ) ⟨gl_S q114 q115 q2 q116, by decide +kernel⟩ ⟨rfl, rfl, Nat.le_of_ble_eq_true rfl, Nat.le_of_ble_eq_true rfl⟩ rfl hl.1 rfl (Nat.le_of_ble_eq_true rfl) dX7_isTemperature_8 ⟨Nat.zero_le _, Nat.zero_le _⟩) (fun H locs hw => ?_)
  exact e_i hf hr hlocks hw (nar_bz _) (congrArg (fun z => (z, μ)) rfl) dX7_isTemperature_11
theorem n_X7_isTemperature (μ : Mu)  (w : Int32)  : (sp_X7_isTemperature  w) = bz ((-200000 : Int64) ≤ w.toInt64 ∧ w.toInt64 ≤ 850000) := by
  rfl
theorem kn_X7_isTemperature (l : Launch) (E : En) (μ : Mu)  (w : Int32)  : MtI l yX7_isTemperature cX7_isTemperature 1 .boolean ({ frames := 1, cells := 0, slots := 0, locals := 25 }) [.int (w)] E μ (bz ((-200000 : Int64) ≤ w.toInt64 ∧ w.toInt64 ≤ 850000), μ) := by
  rw [← n_X7_isTemperature μ w ]
  exact k_X7_isTemperature l E μ  w 
def sp_X7_isBase   (v : Int64) : Int32 :=
  bz ((1000 : Int64) ≤ v ∧ v ≤ (2000000 : Int64))
set_option maxHeartbeats 4000000 in
set_option maxRecDepth 100000 in
theorem k_X7_isBase (l : Launch) (E : En) (μ : Mu)  (v : Int64)  : MtI l yX7_isBase cX7_isBase 2 .boolean ({ frames := 1, cells := 0, slots := 0, locals := 25 }) [.long (v)] E μ ((sp_X7_isBase  v), μ) := by
  refine mt_of (by decide +kernel) (Nat.le_of_ble_eq_true rfl) ?_
  intro p e s m args below meth c ls hf hr hlocks hl hw
  have hx := hf.1
  have hb := hf.2.1
  have hl : lv_has ls 2 [(0, .long (v))] := hl
  refine lv_lload_n hx hb dX7_isBase_0 rfl (lv_at hl 0 rfl) ?_
  refine lv_ldc2 hx hb hf.2.2.2.1 (hf.2.2.2.2 _ q451) dX7_isBase_1 ?_
  refine lv_ldc2 hx hb hf.2.2.2.1 (hf.2.2.2.2 _ q452) dX7_isBase_4 ?_
  refine c_iR hw (run_S (As := [.long (v), .long (1000), .long (2000000)]) (rest := []) (np := 3) hf hw (kn_X7_isWithin l E _  v (1000 : Int64) (2000000 : Int64)  ) ⟨gl_S q114 q115 q2 q116, by decide +kernel⟩ ⟨rfl, rfl, Nat.le_of_ble_eq_true rfl, Nat.le_of_ble_eq_true rfl⟩ rfl hl.1 rfl (Nat.le_of_ble_eq_true rfl) dX7_isBase_7 ⟨Nat.zero_le _, Nat.zero_le _⟩) (fun H locs hw => ?_)
  exact e_i hf hr hlocks hw (nar_bz _) (congrArg (fun z => (z, μ)) rfl) dX7_isBase_10
theorem n_X7_isBase (μ : Mu)  (v : Int64)  : (sp_X7_isBase  v) = bz ((1000 : Int64) ≤ v ∧ v ≤ 2000000) := by
  rfl
theorem kn_X7_isBase (l : Launch) (E : En) (μ : Mu)  (v : Int64)  : MtI l yX7_isBase cX7_isBase 2 .boolean ({ frames := 1, cells := 0, slots := 0, locals := 25 }) [.long (v)] E μ (bz ((1000 : Int64) ≤ v ∧ v ≤ 2000000), μ) := by
  rw [← n_X7_isBase μ v ]
  exact k_X7_isBase l E μ  v 
def sp_X7_isSlot   (a : Int32) (b : Int32) : Int32 :=
  if (0 : Int64) ≤ (a.toInt64) ∧ (a.toInt64) ≤ (3 : Int64) then
    if (0 : Int64) ≤ (b.toInt64) ∧ (b.toInt64) ≤ (2 : Int64) then
      1
    else
      0
  else
    0
set_option maxHeartbeats 4000000 in
set_option maxRecDepth 100000 in
theorem k_X7_isSlot (l : Launch) (E : En) (μ : Mu)  (a : Int32) (b : Int32)  : MtI l yX7_isSlot cX7_isSlot 2 .boolean ({ frames := 1, cells := 0, slots := 0, locals := 25 }) [.int (a), .int (b)] E μ ((sp_X7_isSlot  a b), μ) := by
  refine mt_of (by decide +kernel) (Nat.le_of_ble_eq_true rfl) ?_
  intro p e s m args below meth c ls hf hr hlocks hl hw
  have hx := hf.1
  have hb := hf.2.1
  have hl : lv_has ls 2 [(0, .int (a)), (1, .int (b))] := hl
  refine lv_iload_n hx hb dX7_isSlot_0 rfl (lv_at hl 0 rfl) ?_
  refine lv_i2l hx hb dX7_isSlot_1 rfl ?_
  refine lv_lconst (v := 0) hx hb dX7_isSlot_2 (by decide) ?_
  refine lv_ldc2 hx hb hf.2.2.2.1 (hf.2.2.2.2 _ q356) dX7_isSlot_3 ?_
  refine c_iR hw (run_S (As := [.long (a.toInt64), .long (0), .long (3)]) (rest := []) (np := 3) hf hw (kn_X7_isWithin l E _  (a.toInt64) (0 : Int64) (3 : Int64)  ) ⟨gl_S q114 q115 q2 q116, by decide +kernel⟩ ⟨rfl, rfl, Nat.le_of_ble_eq_true rfl, Nat.le_of_ble_eq_true rfl⟩ rfl hl.1 rfl (Nat.le_of_ble_eq_true rfl) dX7_isSlot_6 ⟨Nat.zero_le _, Nat.zero_le _⟩) (fun H locs hw => ?_)
  refine lv_if_eq (tgt := 28) hx hb dX7_isSlot_9 (by decide) (fun c1 => ?_) (fun c1 => ?_)
  · replace c1 := (bz_0 _).mp c1
    refine lv_iconst (v := 0) hx hb dX7_isSlot_28 (by decide) ?_
    exact e_i hf hr hlocks hw rfl (congrArg (fun z => (z, μ)) ((if_neg c1).trans rfl)) dX7_isSlot_29
  · replace c1 := (bz_n0 _).mp c1
    refine lv_iload_n hx hb dX7_isSlot_12 rfl (lv_at hl 1 rfl) ?_
    refine lv_i2l hx hb dX7_isSlot_13 rfl ?_
    refine lv_lconst (v := 0) hx hb dX7_isSlot_14 (by decide) ?_
    refine lv_ldc2 hx hb hf.2.2.2.1 (hf.2.2.2.2 _ q357) dX7_isSlot_15 ?_
    refine c_iR hw (run_S (As := [.long (b.toInt64), .long (0), .long (2)]) (rest := []) (np := 3) hf hw (kn_X7_isWithin l E _  (b.toInt64) (0 : Int64) (2 : Int64)  ) ⟨gl_S q114 q115 q2 q116, by decide +kernel⟩ ⟨rfl, rfl, Nat.le_of_ble_eq_true rfl, Nat.le_of_ble_eq_true rfl⟩ rfl hl.1 rfl (Nat.le_of_ble_eq_true rfl) dX7_isSlot_18 ⟨Nat.zero_le _, Nat.zero_le _⟩) (fun H locs hw => ?_)
    refine lv_if_eq (tgt := 28) hx hb dX7_isSlot_21 (by decide) (fun c2 => ?_) (fun c2 => ?_)
    · replace c2 := (bz_0 _).mp c2
      refine lv_iconst (v := 0) hx hb dX7_isSlot_28 (by decide) ?_
      exact e_i hf hr hlocks hw rfl (congrArg (fun z => (z, μ)) ((if_pos c1).trans ((if_neg c2).trans rfl))) dX7_isSlot_29
    · replace c2 := (bz_n0 _).mp c2
      refine lv_iconst (v := 1) hx hb dX7_isSlot_24 (by decide) ?_
      refine lv_goto (tgt := 29) hx hb dX7_isSlot_25 (by decide) ?_
      exact e_i hf hr hlocks hw rfl (congrArg (fun z => (z, μ)) ((if_pos c1).trans ((if_pos c2).trans rfl))) dX7_isSlot_29
theorem n_X7_isSlot (μ : Mu)  (a : Int32) (b : Int32)  : (sp_X7_isSlot  a b) = bz (((0 : Int64) ≤ a.toInt64 ∧ a.toInt64 ≤ 3) ∧ (0 : Int64) ≤ b.toInt64 ∧ b.toInt64 ≤ 2) := by
  unfold sp_X7_isSlot bz
  repeat' (first | rfl | split)
  all_goals (first | (exfalso; simp_all; done) | (exfalso; simp only [Int64.le_iff_toInt_le, Int64.lt_iff_toInt_lt] at *; omega))
theorem kn_X7_isSlot (l : Launch) (E : En) (μ : Mu)  (a : Int32) (b : Int32)  : MtI l yX7_isSlot cX7_isSlot 2 .boolean ({ frames := 1, cells := 0, slots := 0, locals := 25 }) [.int (a), .int (b)] E μ (bz (((0 : Int64) ≤ a.toInt64 ∧ a.toInt64 ≤ 3) ∧ (0 : Int64) ≤ b.toInt64 ∧ b.toInt64 ≤ 2), μ) := by
  rw [← n_X7_isSlot μ a b ]
  exact k_X7_isSlot l E μ  a b 
def sp_X7_toldPlace   (w : Int32) : Int32 :=
  ((w / 3) * 10) + (w - w / 3 * 3)
set_option maxHeartbeats 4000000 in
set_option maxRecDepth 100000 in
theorem k_X7_toldPlace (l : Launch) (E : En) (μ : Mu)  (w : Int32)  : MtI l yX7_toldPlace cX7_toldPlace 1 .int ({ frames := 0, cells := 0, slots := 0, locals := 0 }) [.int (w)] E μ ((sp_X7_toldPlace  w), μ) := by
  refine mt_of (by decide +kernel) (Nat.le_of_ble_eq_true rfl) ?_
  intro p e s m args below meth c ls hf hr hlocks hl hw
  have hx := hf.1
  have hb := hf.2.1
  have hl : lv_has ls 1 [(0, .int (w))] := hl
  refine lv_iload_n hx hb dX7_toldPlace_0 rfl (lv_at hl 0 rfl) ?_
  refine lv_iconst (v := 3) hx hb dX7_toldPlace_1 (by decide) ?_
  refine lv_idiv hx hb dX7_toldPlace_2 (by decide) ?_
  refine lv_bipush (v := 10) hx hb dX7_toldPlace_3 (by decide) ?_
  refine lv_imul hx hb dX7_toldPlace_5 ?_
  refine lv_iload_n hx hb dX7_toldPlace_6 rfl (lv_at hl 0 rfl) ?_
  refine lv_iconst (v := 3) hx hb dX7_toldPlace_7 (by decide) ?_
  refine lv_irem hx hb dX7_toldPlace_8 (by decide) ?_
  refine lv_iadd hx hb dX7_toldPlace_9 ?_
  exact e_i hf hr hlocks hw rfl (congrArg (fun z => (z, μ)) rfl) dX7_toldPlace_10
