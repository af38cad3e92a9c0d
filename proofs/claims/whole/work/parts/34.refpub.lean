/-! ===== the reference: what changes no more than its own numbers ===== -/
def S7 (x : Int32) (m : Mu) : Prop := m.1 7 0 = x
theorem s7_pM {x : Int32} {m : Mu} {c k : Nat} {v : Int32} (hc : c ≠ 7) (h : S7 x m) : S7 x (pM m c k v) := by
  unfold S7 at h ⊢
  rw [pM_row (Ne.symm hc)]; exact h
theorem s7_pC {x : Int32} {m : Mu} {c b c' b' n : Nat} (hc : c ≠ 7) (h : S7 x m) : S7 x (pC m c b c' b' n) := by
  unfold S7 at h ⊢
  rw [pC_row (Ne.symm hc)]; exact h
theorem s7_ni {x : Int32} {m : Mu} (h : S7 x m) (hst : ni 5 x) : ni 5 (m.1 7 0) := by
  unfold S7 at h
  rw [h]; exact hst
theorem s7_lf {x : Int32} {v : Int32} {m : Mu} (h : S7 x m) : S7 x ((v, m).2) := h
theorem s7_ite {x : Int32} {P : Prop} [Decidable P] {a b : Int32 × Mu} (ha : S7 x a.2) (hb : S7 x b.2) : S7 x (if P then a else b).2 := by
  split
  · exact ha
  · exact hb
theorem s7_iteM {x : Int32} {P : Prop} [Decidable P] {a b : Mu} (ha : S7 x a) (hb : S7 x b) : S7 x (if P then a else b) := by
  split
  · exact ha
  · exact hb
theorem s7_oc {x : Int32} {o : Option Nat} {a : Int32 × Mu} {f : Nat → Int32 × Mu} (ha : S7 x a.2) (hb : ∀ t, S7 x (f t).2) : S7 x (oc o a f).2 := by
  cases o with
  | none => exact ha
  | some t => exact hb t
theorem s7_ocM {x : Int32} {o : Option Nat} {a : Mu} {f : Nat → Mu} (ha : S7 x a) (hb : ∀ t, S7 x (f t)) : S7 x (oc o a f) := by
  cases o with
  | none => exact ha
  | some t => exact hb t
theorem upM_rr (M : Nat → Nat → Int32) (c k : Nat) (v : Int32) : upM M c k v c = fun y => if y = k then v else M c y := by funext y; simp [upM]
def sp_X8_isWire (g : Nat → Int32)  (a : Int32) (w : Int32) : Int32 :=
  if 0 ≤ a ∧ a ≤ (g 1) - 1 then
    if (0 : Int32) ≤ w ∧ w ≤ ((g (85 + 29 * a.toNatClampNeg + 1)) - 1) then
      1
    else
      0
  else
    0
set_option maxHeartbeats 4000000 in
set_option maxRecDepth 100000 in
theorem k_X8_isWire (l : Launch) (E : En) (μ : Mu)  (a : Int32) (w : Int32) (hI : RI (μ.1 8)) : MtI l yX8_isWire cX8_isWire 3 .boolean ({ frames := 2, cells := 0, slots := 0, locals := 43 }) [.ref (E.1 (232)), .int (a), .int (w)] E μ ((sp_X8_isWire (μ.1 8) a w), μ) := by
  refine mt_of (by decide +kernel) (Nat.le_of_ble_eq_true rfl) ?_
  intro p e s m args below meth c ls hf hr hlocks hl hw
  have hx := hf.1
  have hb := hf.2.1
  have hl : lv_has ls 3 [(0, .ref (E.1 (232))), (1, .int (a)), (2, .int (w))] := hl
  refine lv_aload_n hx hb dX8_isWire_0 rfl (lv_at hl 0 rfl) ?_
  refine lv_iload_n hx hb dX8_isWire_1 rfl (lv_at hl 1 rfl) ?_
  refine c_iR hw (run_V (As := [.int (a)]) (rest := []) (np := 1) hf hw (kn_X8_isSensor l E _  a  ) ⟨gl_V q370 q371 q372 q5 q373, by decide +kernel⟩ ⟨rfl, rfl, Nat.le_of_ble_eq_true rfl, Nat.le_of_ble_eq_true rfl⟩ (by decide) (c_R E _) rfl rfl hl.1 rfl (Nat.le_of_ble_eq_true rfl) dX8_isWire_2 ⟨Nat.zero_le _, Nat.zero_le _⟩) (fun H locs hw => ?_)
  refine lv_if_eq (tgt := 28) hx hb dX8_isWire_5 (by decide) (fun c1 => ?_) (fun c1 => ?_)
  · replace c1 := (bz_0 _).mp c1
    refine lv_iconst (v := 0) hx hb dX8_isWire_28 (by decide) ?_
    exact e_i hf hr hlocks hw rfl (congrArg (fun z => (z, μ)) ((if_neg c1).trans rfl)) dX8_isWire_29
  · replace c1 := (bz_n0 _).mp c1
    have c1a := (ni_of hI.2.1 (by decide) c1)
    have c1ab : a.toNatClampNeg < 6 := Nat.lt_of_lt_of_le c1a.2 (Nat.le_of_lt_succ hI.2.1.2)
    refine lv_iload_n hx hb dX8_isWire_8 rfl (lv_at hl 2 rfl) ?_
    refine lv_iconst (v := 0) hx hb dX8_isWire_9 (by decide) ?_
    refine lv_aload_n hx hb dX8_isWire_10 rfl (lv_at hl 0 rfl) ?_
    refine lv_iload_n hx hb dX8_isWire_11 rfl (lv_at hl 1 rfl) ?_
    refine fold_i (show a = nI (a.toNatClampNeg) from c1a.1) ?_
    refine lv_iconst (v := 1) hx hb dX8_isWire_12 (by decide) ?_
    refine c_iR hw (run_V (As := [.int (nI (a.toNatClampNeg)), .int 1]) (rest := [.int 0, .int (w)]) (np := 2) hf hw (kn_X8_of l E _  a.toNatClampNeg 1  (show a.toNatClampNeg < 6 from c1ab) (show 1 < 29 from (by decide))) ⟨gl_V q227 q228 q229 q5 q230, by decide +kernel⟩ ⟨rfl, rfl, Nat.le_of_ble_eq_true rfl, Nat.le_of_ble_eq_true rfl⟩ (by decide) (c_R E _) rfl rfl hl.1 rfl (Nat.le_of_ble_eq_true rfl) dX8_isWire_13 ⟨Nat.zero_le _, Nat.zero_le _⟩) (fun H locs hw => ?_)
    refine lv_iconst (v := 1) hx hb dX8_isWire_16 (by decide) ?_
    refine lv_isub hx hb dX8_isWire_17 ?_
    refine c_iR hw (run_S (As := [.int (w), .int 0, .int ((μ.1 8 (85 + 29 * a.toNatClampNeg + 1)) - 1)]) (rest := []) (np := 3) hf hw (kn_X8_in l E _  w (0 : Int32) ((μ.1 8 (85 + 29 * a.toNatClampNeg + 1)) - 1)  ) ⟨gl_S q207 q208 q5 q209, by decide +kernel⟩ ⟨rfl, rfl, Nat.le_of_ble_eq_true rfl, Nat.le_of_ble_eq_true rfl⟩ rfl hl.1 rfl (Nat.le_of_ble_eq_true rfl) dX8_isWire_18 ⟨Nat.zero_le _, Nat.zero_le _⟩) (fun H locs hw => ?_)
    refine lv_if_eq (tgt := 28) hx hb dX8_isWire_21 (by decide) (fun c2 => ?_) (fun c2 => ?_)
    · replace c2 := (bz_0 _).mp c2
      refine lv_iconst (v := 0) hx hb dX8_isWire_28 (by decide) ?_
      exact e_i hf hr hlocks hw rfl (congrArg (fun z => (z, μ)) ((if_pos c1).trans ((if_neg c2).trans rfl))) dX8_isWire_29
    · replace c2 := (bz_n0 _).mp c2
      refine lv_iconst (v := 1) hx hb dX8_isWire_24 (by decide) ?_
      refine lv_goto (tgt := 29) hx hb dX8_isWire_25 (by decide) ?_
      exact e_i hf hr hlocks hw rfl (congrArg (fun z => (z, μ)) ((if_pos c1).trans ((if_pos c2).trans rfl))) dX8_isWire_29
theorem n_X8_isWire (μ : Mu)  (a : Int32) (w : Int32) (hI : RI (μ.1 8)) : (sp_X8_isWire (μ.1 8) a w) = bz ((0 ≤ a ∧ a ≤ (μ.1 8 1) - 1) ∧ 0 ≤ w ∧ w ≤ (μ.1 8 (85 + 29 * a.toNatClampNeg + 1)) - 1) := by
  unfold sp_X8_isWire bz
  repeat' (first | rfl | split)
  all_goals (exfalso; simp_all; done)
theorem kn_X8_isWire (l : Launch) (E : En) (μ : Mu)  (a : Int32) (w : Int32) (hI : RI (μ.1 8)) : MtI l yX8_isWire cX8_isWire 3 .boolean ({ frames := 2, cells := 0, slots := 0, locals := 43 }) [.ref (E.1 (232)), .int (a), .int (w)] E μ (bz ((0 ≤ a ∧ a ≤ (μ.1 8 1) - 1) ∧ 0 ≤ w ∧ w ≤ (μ.1 8 (85 + 29 * a.toNatClampNeg + 1)) - 1), μ) := by
  rw [← n_X8_isWire μ a w hI]
  exact k_X8_isWire l E μ  a w hI
def sp_X8_nodeAt (g : Nat → Int32)  (a : Int32) (b : Int32) (w : Int32) : Int32 :=
  if 0 ≤ a ∧ a ≤ (g 0) - 1 then
    if (b : Int32) < 0 then
      (-2000000001)
    else
      if (0 : Int32) ≤ w ∧ w ≤ (1 : Int32) then
        if (b : Int32) < nI ((g (10 + 25 * a.toNatClampNeg)).toNatClampNeg) then
          if (nI (w.toNatClampNeg) : Int32) = 0 then
            (g (11 + 25 * a.toNatClampNeg + b.toNatClampNeg))
          else
            (g (23 + 25 * a.toNatClampNeg + b.toNatClampNeg))
        else
          (-2000000004)
      else
        (-2000000001)
  else
    (-2000000001)
set_option maxHeartbeats 4000000 in
set_option maxRecDepth 100000 in
theorem k_X8_nodeAt (l : Launch) (E : En) (μ : Mu)  (a : Int32) (b : Int32) (w : Int32) (hI : RI (μ.1 8)) : MtI l yX8_nodeAt cX8_nodeAt 4 .int ({ frames := 2, cells := 0, slots := 0, locals := 43 }) [.ref (E.1 (232)), .int (a), .int (b), .int (w)] E μ ((sp_X8_nodeAt (μ.1 8) a b w), μ) := by
  refine mt_of (by decide +kernel) (Nat.le_of_ble_eq_true rfl) ?_
  intro p e s m args below meth c ls hf hr hlocks hl hw
  have hx := hf.1
  have hb := hf.2.1
  have hl : lv_has ls 4 [(0, .ref (E.1 (232))), (1, .int (a)), (2, .int (b)), (3, .int (w))] := hl
  refine lv_aload_n hx hb dX8_nodeAt_0 rfl (lv_at hl 0 rfl) ?_
  refine lv_iload_n hx hb dX8_nodeAt_1 rfl (lv_at hl 1 rfl) ?_
  refine c_iR hw (run_V (As := [.int (a)]) (rest := []) (np := 1) hf hw (kn_X8_isTable l E _  a  ) ⟨gl_V q203 q204 q205 q5 q206, by decide +kernel⟩ ⟨rfl, rfl, Nat.le_of_ble_eq_true rfl, Nat.le_of_ble_eq_true rfl⟩ (by decide) (c_R E _) rfl rfl hl.1 rfl (Nat.le_of_ble_eq_true rfl) dX8_nodeAt_2 ⟨Nat.zero_le _, Nat.zero_le _⟩) (fun H locs hw => ?_)
  refine lv_if_eq (tgt := 21) hx hb dX8_nodeAt_5 (by decide) (fun c1 => ?_) (fun c1 => ?_)
  · replace c1 := (bz_0 _).mp c1
    refine lv_ldc hx hb hf.2.2.2.1 (hf.2.2.2.2 _ q154) dX8_nodeAt_21 ?_
    exact e_i hf hr hlocks hw rfl (congrArg (fun z => (z, μ)) ((if_neg c1).trans rfl)) dX8_nodeAt_23
  · replace c1 := (bz_n0 _).mp c1
    have c1a := (ni_of hI.1 (by decide) c1)
    have c1ab : a.toNatClampNeg < 3 := Nat.lt_of_lt_of_le c1a.2 (Nat.le_of_lt_succ hI.1.2)
    refine lv_iload_n hx hb dX8_nodeAt_8 rfl (lv_at hl 2 rfl) ?_
    refine lv_if_lt (tgt := 21) hx hb dX8_nodeAt_9 (by decide) (fun c2 => ?_) (fun c2 => ?_)
    · refine lv_ldc hx hb hf.2.2.2.1 (hf.2.2.2.2 _ q154) dX8_nodeAt_21 ?_
      exact e_i hf hr hlocks hw rfl (congrArg (fun z => (z, μ)) ((if_pos c1).trans ((if_pos c2).trans rfl))) dX8_nodeAt_23
    · refine lv_iload_n hx hb dX8_nodeAt_12 rfl (lv_at hl 3 rfl) ?_
      refine lv_iconst (v := 0) hx hb dX8_nodeAt_13 (by decide) ?_
      refine lv_iconst (v := 1) hx hb dX8_nodeAt_14 (by decide) ?_
      refine c_iR hw (run_S (As := [.int (w), .int 0, .int 1]) (rest := []) (np := 3) hf hw (kn_X8_in l E _  w (0 : Int32) (1 : Int32)  ) ⟨gl_S q207 q208 q5 q209, by decide +kernel⟩ ⟨rfl, rfl, Nat.le_of_ble_eq_true rfl, Nat.le_of_ble_eq_true rfl⟩ rfl hl.1 rfl (Nat.le_of_ble_eq_true rfl) dX8_nodeAt_15 ⟨Nat.zero_le _, Nat.zero_le _⟩) (fun H locs hw => ?_)
      refine lv_if_ne (tgt := 24) hx hb dX8_nodeAt_18 (by decide) (fun c3 => ?_) (fun c3 => ?_)
      · replace c3 := (bz_n0 _).mp c3
        have c3a := (na_lit 1 rfl (by decide) c3)
        have c3ab : w.toNatClampNeg < 2 := c3a.2
        refine lv_iload_n hx hb dX8_nodeAt_24 rfl (lv_at hl 2 rfl) ?_
        refine lv_aload_n hx hb dX8_nodeAt_25 rfl (lv_at hl 0 rfl) ?_
        refine lv_iload_n hx hb dX8_nodeAt_26 rfl (lv_at hl 1 rfl) ?_
        refine fold_i (show a = nI (a.toNatClampNeg) from c1a.1) ?_
        refine c_iR hw (run_V (As := [.int (nI (a.toNatClampNeg))]) (rest := [.int (b)]) (np := 1) hf hw (kn_X8_nodes l E _  a.toNatClampNeg  (show a.toNatClampNeg < 3 from c1ab)) ⟨gl_V q215 q216 q217 q5 q218, by decide +kernel⟩ ⟨rfl, rfl, Nat.le_of_ble_eq_true rfl, Nat.le_of_ble_eq_true rfl⟩ (by decide) (c_R E _) rfl rfl hl.1 rfl (Nat.le_of_ble_eq_true rfl) dX8_nodeAt_27 ⟨Nat.zero_le _, Nat.zero_le _⟩) (fun H locs hw => ?_)
        have hb4 := ((hI).2.2.1 _ c1ab).2
        refine fold_i (show μ.1 8 (10 + 25 * a.toNatClampNeg) = nI ((μ.1 8 (10 + 25 * a.toNatClampNeg)).toNatClampNeg) from ((hI).2.2.1 _ c1ab).1) ?_
        refine lv_icmp_lt (tgt := 38) hx hb dX8_nodeAt_30 (by decide) (fun c5 => ?_) (fun c5 => ?_)
        · have c5x := (na_cmp (by omega) c2 (nle_of_lt c5))
          have c5xb : b.toNatClampNeg < ((μ.1 8 (10 + 25 * a.toNatClampNeg)).toNatClampNeg) := c5x.2
          refine lv_iload_n hx hb dX8_nodeAt_38 rfl (lv_at hl 3 rfl) ?_
          refine fold_i (show w = nI (w.toNatClampNeg) from c3a.1) ?_
          refine lv_if_ne (tgt := 51) hx hb dX8_nodeAt_39 (by decide) (fun c6 => ?_) (fun c6 => ?_)
          · have c6n : ¬ (w.toNatClampNeg) = 0 := by have q := (nI_eq (a := (w.toNatClampNeg)) (b := 0) (by omega) (by omega)); first | exact q.mp c6 | exact fun z => c6 (q.mpr z)
            refine lv_aload_n hx hb dX8_nodeAt_51 rfl (lv_at hl 0 rfl) ?_
            refine lv_iload_n hx hb dX8_nodeAt_52 rfl (lv_at hl 1 rfl) ?_
            refine fold_i (show a = nI (a.toNatClampNeg) from c1a.1) ?_
            refine lv_iload_n hx hb dX8_nodeAt_53 rfl (lv_at hl 2 rfl) ?_
            refine fold_i (show b = nI (b.toNatClampNeg) from c5x.1) ?_
            refine c_iR hw (run_V (As := [.int (nI (a.toNatClampNeg)), .int (nI (b.toNatClampNeg))]) (rest := []) (np := 2) hf hw (kn_X8_ratioOf l E _  a.toNatClampNeg b.toNatClampNeg  (show a.toNatClampNeg < 3 from c1ab) (show b.toNatClampNeg < 12 from (by omega))) ⟨gl_V q223 q224 q225 q5 q226, by decide +kernel⟩ ⟨rfl, rfl, Nat.le_of_ble_eq_true rfl, Nat.le_of_ble_eq_true rfl⟩ (by decide) (c_R E _) rfl rfl hl.1 rfl (Nat.le_of_ble_eq_true rfl) dX8_nodeAt_54 ⟨Nat.zero_le _, Nat.zero_le _⟩) (fun H locs hw => ?_)
            exact e_i hf hr hlocks hw rfl (congrArg (fun z => (z, μ)) ((if_pos c1).trans ((if_neg c2).trans ((if_pos c3).trans ((if_pos c5).trans ((if_neg c6).trans rfl)))))) dX8_nodeAt_57
          · have c6n : (w.toNatClampNeg) = 0 := by have q := (nI_eq (a := (w.toNatClampNeg)) (b := 0) (by omega) (by omega)); first | exact q.mp c6 | exact fun z => c6 (q.mpr z)
            refine lv_aload_n hx hb dX8_nodeAt_42 rfl (lv_at hl 0 rfl) ?_
            refine lv_iload_n hx hb dX8_nodeAt_43 rfl (lv_at hl 1 rfl) ?_
            refine fold_i (show a = nI (a.toNatClampNeg) from c1a.1) ?_
            refine lv_iload_n hx hb dX8_nodeAt_44 rfl (lv_at hl 2 rfl) ?_
            refine fold_i (show b = nI (b.toNatClampNeg) from c5x.1) ?_
            refine c_iR hw (run_V (As := [.int (nI (a.toNatClampNeg)), .int (nI (b.toNatClampNeg))]) (rest := []) (np := 2) hf hw (kn_X8_degree l E _  a.toNatClampNeg b.toNatClampNeg  (show a.toNatClampNeg < 3 from c1ab) (show b.toNatClampNeg < 12 from (by omega))) ⟨gl_V q219 q220 q221 q5 q222, by decide +kernel⟩ ⟨rfl, rfl, Nat.le_of_ble_eq_true rfl, Nat.le_of_ble_eq_true rfl⟩ (by decide) (c_R E _) rfl rfl hl.1 rfl (Nat.le_of_ble_eq_true rfl) dX8_nodeAt_45 ⟨Nat.zero_le _, Nat.zero_le _⟩) (fun H locs hw => ?_)
            refine lv_goto (tgt := 57) hx hb dX8_nodeAt_48 (by decide) ?_
            exact e_i hf hr hlocks hw rfl (congrArg (fun z => (z, μ)) ((if_pos c1).trans ((if_neg c2).trans ((if_pos c3).trans ((if_pos c5).trans ((if_pos c6).trans rfl)))))) dX8_nodeAt_57
        · refine lv_ldc hx hb hf.2.2.2.1 (hf.2.2.2.2 _ q242) dX8_nodeAt_33 ?_
          refine lv_goto (tgt := 57) hx hb dX8_nodeAt_35 (by decide) ?_
          exact e_i hf hr hlocks hw rfl (congrArg (fun z => (z, μ)) ((if_pos c1).trans ((if_neg c2).trans ((if_pos c3).trans ((if_neg c5).trans rfl))))) dX8_nodeAt_57
      · replace c3 := (bz_0 _).mp c3
        refine lv_ldc hx hb hf.2.2.2.1 (hf.2.2.2.2 _ q154) dX8_nodeAt_21 ?_
        exact e_i hf hr hlocks hw rfl (congrArg (fun z => (z, μ)) ((if_pos c1).trans ((if_neg c2).trans ((if_neg c3).trans rfl)))) dX8_nodeAt_23
theorem cast_ni {N : Nat} {x y : Int32} (e : x = y) (h : ni N y) : ni N x := by rw [e]; exact h
def lp_X8_inside_2 (g : Nat → Int32)  (w : Int32) : Nat → Nat → Int32
  | 0, _ => 0
  | f + 1, k =>
    if (nI ((g 1).toNatClampNeg) : Int32) ≤ nI k then
      (-1)
    else
      if ((g (85 + 29 * k + 13)) : Int32) = w then
        nI k
      else
        lp_X8_inside_2 g w f (k + 1)
def sp_X8_inside (g : Nat → Int32)  (w : Int32) : Int32 :=
  lp_X8_inside_2 g w 7 0
set_option maxHeartbeats 4000000 in
set_option maxRecDepth 100000 in
theorem k_X8_inside (l : Launch) (E : En) (μ : Mu)  (w : Int32) (hc : ni 7 (μ.1 8 1)) : MtI l yX8_inside cX8_inside 3 .int ({ frames := 1, cells := 0, slots := 0, locals := 22 }) [.ref (E.1 (232)), .int (w)] E μ ((sp_X8_inside (μ.1 8) w), μ) := by
  refine mt_of (by decide +kernel) (Nat.le_of_ble_eq_true rfl) ?_
  intro p e s m args below meth c ls hf hr hlocks hl hw
  have hx := hf.1
  have hb := hf.2.1
  have hl : lv_has ls 3 [(0, .ref (E.1 (232))), (1, .int (w))] := hl
  refine lv_iconst (v := 0) hx hb dX8_inside_0 (by decide) ?_
  refine lv_istore_n (lv' := [(2, .int 0), (0, .ref (E.1 (232))), (1, .int (w))]) hx hb dX8_inside_1 rfl hl (by decide) rfl (fun ls hl => ?_)
  have key_2 : ∀ (f : Nat) (k : Nat), k + f = 7 → k ≤ 6 → sp_X8_inside (μ.1 8) w = lp_X8_inside_2 (μ.1 8) w f k → ∀ (ls : Array Slot) (H : Heap) (locs : List Loc), lv_has ls 3 [(0, .ref (E.1 (232))), (1, .int (w)), (2, .int (nI k))] → Wk E μ s H locs → W p l e ({ frames := 1, cells := 0, slots := 0, locals := 22 }) s m args below meth c H locs 0 0 (MQ below (va_Qi (fun r u => r = ((sp_X8_inside (μ.1 8) w, μ)).1 ∧ u = ((sp_X8_inside (μ.1 8) w, μ)).2) (fun u t => WdU E u t) (inE E)) args s 0 0 (inE E)) (F0 m 2 ls []) := by
    intro f
    induction f with
    | zero => intro k h1 h2 hq ls H locs hl hw; exfalso; omega
    | succ f ih =>
      intro k h1 h2 hq ls H locs hl hw
      have hb0 := hc.2
      refine lv_iload_n hx hb dX8_inside_2 rfl (lv_at hl 2 rfl) ?_
      refine lv_aload_n hx hb dX8_inside_3 rfl (lv_at hl 0 rfl) ?_
      refine g_f hw hf (by decide) (c_R E _) rfl inlX8 0 (by decide) rfl q90 rfl dX8_inside_4 ?_
      refine lv_iconst (v := 1) hx hb dX8_inside_7 (by decide) ?_
      refine g_a hw hf (by decide) (c_Rs E _) (vp_lit 1 259 (by decide) (by decide)) (tr_at (y := 1) (by decide) (by decide)) dX8_inside_8 ?_
      have hb1 := hc.2
      refine fold_i (show μ.1 8 1 = nI ((μ.1 8 1).toNatClampNeg) from hc.1) ?_
      refine lv_icmp_ge (tgt := 31) hx hb dX8_inside_9 (by decide) (fun c2 => ?_) (fun c2 => ?_)
      · have c2n : ((μ.1 8 1).toNatClampNeg) ≤ k := by have q := (nI_leI (a := ((μ.1 8 1).toNatClampNeg)) (b := k) (by omega) (by omega)); first | exact q.mp c2 | exact fun z => c2 (q.mpr z)
        refine lv_iconst (v := (-1)) hx hb dX8_inside_31 (by decide) ?_
        exact e_i hf hr hlocks hw rfl (congrArg (fun z => (z, μ)) ((hq).trans ((if_pos c2).trans rfl))) dX8_inside_32
      · have c2n : ¬ ((μ.1 8 1).toNatClampNeg) ≤ k := by have q := (nI_leI (a := ((μ.1 8 1).toNatClampNeg)) (b := k) (by omega) (by omega)); first | exact q.mp c2 | exact fun z => c2 (q.mpr z)
        refine lv_aload_n hx hb dX8_inside_12 rfl (lv_at hl 0 rfl) ?_
        refine lv_iload_n hx hb dX8_inside_13 rfl (lv_at hl 2 rfl) ?_
        refine lv_bipush (v := 13) hx hb dX8_inside_14 (by decide) ?_
        refine c_iR hw (run_V (As := [.int (nI k), .int 13]) (rest := []) (np := 2) hf hw (kn_X8_of l E _  k 13  (show k < 6 from (by omega)) (show 13 < 29 from (by decide))) ⟨gl_V q227 q228 q229 q5 q230, by decide +kernel⟩ ⟨rfl, rfl, Nat.le_of_ble_eq_true rfl, Nat.le_of_ble_eq_true rfl⟩ (by decide) (c_R E _) rfl rfl hl.1 rfl (Nat.le_of_ble_eq_true rfl) dX8_inside_16 ⟨Nat.zero_le _, Nat.zero_le _⟩) (fun H locs hw => ?_)
        refine lv_iload_n hx hb dX8_inside_19 rfl (lv_at hl 1 rfl) ?_
        refine lv_icmp_ne (tgt := 25) hx hb dX8_inside_20 (by decide) (fun c3 => ?_) (fun c3 => ?_)
        · refine lv_iinc (v := nI (k + 1)) (lv' := [(2, .int (nI (k + 1))), (0, .ref (E.1 (232))), (1, .int (w))]) hx hb dX8_inside_25 hl (k := 2) rfl (nI_1 _) (by decide) rfl (fun ls hl => ?_)
          refine lv_goto (tgt := 2) hx hb dX8_inside_28 (by decide) ?_
          exact ih (k + 1) (by omega) (by omega) (((hq).trans ((if_neg c2).trans ((if_neg c3).trans rfl)))) _ _ _ (lv_sub hl [1, 2, 0] rfl) hw
        · refine lv_iload_n hx hb dX8_inside_23 rfl (lv_at hl 2 rfl) ?_
          exact e_i hf hr hlocks hw rfl (congrArg (fun z => (z, μ)) ((hq).trans ((if_neg c2).trans ((if_pos c3).trans rfl)))) dX8_inside_24
  exact key_2 7 0 (by omega) (by omega) (rfl) _ _ _ (lv_sub hl [1, 2, 0] rfl) hw
def sp_X8_slotAt (g : Nat → Int32)  (a : Int32) (b : Int32) : Int32 :=
  if (0 : Int32) ≤ a ∧ a ≤ (3 : Int32) then
    if (0 : Int32) ≤ b ∧ b ≤ (2 : Int32) then
      if (sp_X8_inside g  (nI (10 * a.toNatClampNeg + b.toNatClampNeg)) : Int32) = (-1) then
        (-2000000004)
      else
        sp_X8_inside g  (nI (10 * a.toNatClampNeg + b.toNatClampNeg))
    else
      (-2000000001)
  else
    (-2000000001)
set_option maxHeartbeats 4000000 in
set_option maxRecDepth 100000 in
theorem k_X8_slotAt (l : Launch) (E : En) (μ : Mu)  (a : Int32) (b : Int32) (hI : RI (μ.1 8)) : MtI l yX8_slotAt cX8_slotAt 4 .int ({ frames := 2, cells := 0, slots := 0, locals := 44 }) [.ref (E.1 (232)), .int (a), .int (b)] E μ ((sp_X8_slotAt (μ.1 8) a b), μ) := by
  refine mt_of (by decide +kernel) (Nat.le_of_ble_eq_true rfl) ?_
  intro p e s m args below meth c ls hf hr hlocks hl hw
  have hx := hf.1
  have hb := hf.2.1
  have hl : lv_has ls 4 [(0, .ref (E.1 (232))), (1, .int (a)), (2, .int (b))] := hl
  refine lv_iload_n hx hb dX8_slotAt_0 rfl (lv_at hl 1 rfl) ?_
  refine lv_iconst (v := 0) hx hb dX8_slotAt_1 (by decide) ?_
  refine lv_iconst (v := 3) hx hb dX8_slotAt_2 (by decide) ?_
  refine c_iR hw (run_S (As := [.int (a), .int 0, .int 3]) (rest := []) (np := 3) hf hw (kn_X8_in l E _  a (0 : Int32) (3 : Int32)  ) ⟨gl_S q207 q208 q5 q209, by decide +kernel⟩ ⟨rfl, rfl, Nat.le_of_ble_eq_true rfl, Nat.le_of_ble_eq_true rfl⟩ rfl hl.1 rfl (Nat.le_of_ble_eq_true rfl) dX8_slotAt_3 ⟨Nat.zero_le _, Nat.zero_le _⟩) (fun H locs hw => ?_)
  refine lv_if_eq (tgt := 18) hx hb dX8_slotAt_6 (by decide) (fun c1 => ?_) (fun c1 => ?_)
  · replace c1 := (bz_0 _).mp c1
    refine lv_ldc hx hb hf.2.2.2.1 (hf.2.2.2.2 _ q154) dX8_slotAt_18 ?_
    exact e_i hf hr hlocks hw rfl (congrArg (fun z => (z, μ)) ((if_neg c1).trans rfl)) dX8_slotAt_20
  · replace c1 := (bz_n0 _).mp c1
    have c1a := (na_lit 3 rfl (by decide) c1)
    have c1ab : a.toNatClampNeg < 4 := c1a.2
    refine lv_iload_n hx hb dX8_slotAt_9 rfl (lv_at hl 2 rfl) ?_
    refine lv_iconst (v := 0) hx hb dX8_slotAt_10 (by decide) ?_
    refine lv_iconst (v := 2) hx hb dX8_slotAt_11 (by decide) ?_
    refine c_iR hw (run_S (As := [.int (b), .int 0, .int 2]) (rest := []) (np := 3) hf hw (kn_X8_in l E _  b (0 : Int32) (2 : Int32)  ) ⟨gl_S q207 q208 q5 q209, by decide +kernel⟩ ⟨rfl, rfl, Nat.le_of_ble_eq_true rfl, Nat.le_of_ble_eq_true rfl⟩ rfl hl.1 rfl (Nat.le_of_ble_eq_true rfl) dX8_slotAt_12 ⟨Nat.zero_le _, Nat.zero_le _⟩) (fun H locs hw => ?_)
    refine lv_if_ne (tgt := 21) hx hb dX8_slotAt_15 (by decide) (fun c2 => ?_) (fun c2 => ?_)
    · replace c2 := (bz_n0 _).mp c2
      have c2a := (na_lit 2 rfl (by decide) c2)
      have c2ab : b.toNatClampNeg < 3 := c2a.2
      refine lv_aload_n hx hb dX8_slotAt_21 rfl (lv_at hl 0 rfl) ?_
      refine lv_bipush (v := 10) hx hb dX8_slotAt_22 (by decide) ?_
      refine lv_iload_n hx hb dX8_slotAt_24 rfl (lv_at hl 1 rfl) ?_
      refine fold_i (show a = nI (a.toNatClampNeg) from c1a.1) ?_
      refine lv_imul hx hb dX8_slotAt_25 ?_
      refine fold_i (show (10 : Int32) * nI (a.toNatClampNeg) = nI (10 * a.toNatClampNeg) from pk_mul (10) (a.toNatClampNeg)) ?_
      refine lv_iload_n hx hb dX8_slotAt_26 rfl (lv_at hl 2 rfl) ?_
      refine fold_i (show b = nI (b.toNatClampNeg) from c2a.1) ?_
      refine lv_iadd hx hb dX8_slotAt_27 ?_
      refine fold_i (show nI (10 * a.toNatClampNeg) + nI (b.toNatClampNeg) = nI (10 * a.toNatClampNeg + b.toNatClampNeg) from nI_add (10 * a.toNatClampNeg) (b.toNatClampNeg)) ?_
      refine c_iR hw (run_V (As := [.int (nI (10 * a.toNatClampNeg + b.toNatClampNeg))]) (rest := []) (np := 1) hf hw (k_X8_inside l E _  (nI (10 * a.toNatClampNeg + b.toNatClampNeg))  hI.2.1) ⟨gl_V q374 q375 q376 q5 q377, by decide +kernel⟩ ⟨rfl, rfl, Nat.le_of_ble_eq_true rfl, Nat.le_of_ble_eq_true rfl⟩ (by decide) (c_R E _) rfl rfl hl.1 rfl (Nat.le_of_ble_eq_true rfl) dX8_slotAt_28 ⟨Nat.zero_le _, Nat.zero_le _⟩) (fun H locs hw => ?_)
      refine lv_istore_n (lv' := [(3, .int (sp_X8_inside (μ.1 8)  (nI (10 * a.toNatClampNeg + b.toNatClampNeg)))), (0, .ref (E.1 (232))), (1, .int (a)), (2, .int (b))]) hx hb dX8_slotAt_31 rfl hl (by decide) rfl (fun ls hl => ?_)
      refine lv_iload_n hx hb dX8_slotAt_32 rfl (lv_at hl 0 rfl) ?_
      refine lv_iconst (v := (-1)) hx hb dX8_slotAt_33 (by decide) ?_
      refine lv_icmp_ne (tgt := 42) hx hb dX8_slotAt_34 (by decide) (fun c3 => ?_) (fun c3 => ?_)
      · refine lv_iload_n hx hb dX8_slotAt_42 rfl (lv_at hl 0 rfl) ?_
        exact e_i hf hr hlocks hw rfl (congrArg (fun z => (z, μ)) ((if_pos c1).trans ((if_pos c2).trans ((if_neg c3).trans rfl)))) dX8_slotAt_43
      · refine lv_ldc hx hb hf.2.2.2.1 (hf.2.2.2.2 _ q242) dX8_slotAt_37 ?_
        refine lv_goto (tgt := 43) hx hb dX8_slotAt_39 (by decide) ?_
        exact e_i hf hr hlocks hw rfl (congrArg (fun z => (z, μ)) ((if_pos c1).trans ((if_pos c2).trans ((if_pos c3).trans rfl)))) dX8_slotAt_43
    · replace c2 := (bz_0 _).mp c2
      refine lv_ldc hx hb hf.2.2.2.1 (hf.2.2.2.2 _ q154) dX8_slotAt_18 ?_
      exact e_i hf hr hlocks hw rfl (congrArg (fun z => (z, μ)) ((if_pos c1).trans ((if_neg c2).trans rfl))) dX8_slotAt_20
def sp_X8_lead (μ : Mu)  (a : Int32) (b : Int32) (w : Int32) : Int32 × Mu :=
  if (0 ≤ a ∧ a ≤ (μ.1 8 1) - 1) ∧ 0 ≤ b ∧ b ≤ (μ.1 8 (85 + 29 * a.toNatClampNeg + 1)) - 1 then
    if (0 : Int32) ≤ w ∧ w ≤ (50000 : Int32) then
      ((sp_X8_acted (pM (pC μ 11 0 8 0 259) 8 (85 + 29 * a.toNatClampNeg + (5 + b.toNatClampNeg)) (nI (w.toNatClampNeg)))  (μ.1 8 (85 + 29 * a.toNatClampNeg + (5 + b.toNatClampNeg)))).1, (sp_X8_acted (pM (pC μ 11 0 8 0 259) 8 (85 + 29 * a.toNatClampNeg + (5 + b.toNatClampNeg)) (nI (w.toNatClampNeg)))  (μ.1 8 (85 + 29 * a.toNatClampNeg + (5 + b.toNatClampNeg)))).2)
    else
      ((-2000000001), μ)
  else
    ((-2000000001), μ)
set_option maxHeartbeats 4000000 in
set_option maxRecDepth 100000 in
theorem k_X8_lead (l : Launch) (E : En) (μ : Mu)  (a : Int32) (b : Int32) (w : Int32) (hI : RI (μ.1 8)) (hst : ni 5 (μ.1 7 0)) : MtI l yX8_lead cX8_lead 5 .int ({ frames := 3, cells := 0, slots := 0, locals := 65 }) [.ref (E.1 (232)), .int (a), .int (b), .int (w)] E μ (sp_X8_lead μ a b w) := by
  refine mt_of (by decide +kernel) (Nat.le_of_ble_eq_true rfl) ?_
  intro p e s m args below meth c ls hf hr hlocks hl hw
  have hx := hf.1
  have hb := hf.2.1
  have hl : lv_has ls 5 [(0, .ref (E.1 (232))), (1, .int (a)), (2, .int (b)), (3, .int (w))] := hl
  refine lv_aload_n hx hb dX8_lead_0 rfl (lv_at hl 0 rfl) ?_
  refine lv_iload_n hx hb dX8_lead_1 rfl (lv_at hl 1 rfl) ?_
  refine lv_iload_n hx hb dX8_lead_2 rfl (lv_at hl 2 rfl) ?_
  refine c_iR hw (run_V (As := [.int (a), .int (b)]) (rest := []) (np := 2) hf hw (kn_X8_isWire l E _  a b  hI) ⟨gl_V q438 q439 q440 q5 q441, by decide +kernel⟩ ⟨rfl, rfl, Nat.le_of_ble_eq_true rfl, Nat.le_of_ble_eq_true rfl⟩ (by decide) (c_R E _) rfl rfl hl.1 rfl (Nat.le_of_ble_eq_true rfl) dX8_lead_3 ⟨Nat.zero_le _, Nat.zero_le _⟩) (fun H locs hw => ?_)
  refine lv_if_eq (tgt := 19) hx hb dX8_lead_6 (by decide) (fun c1 => ?_) (fun c1 => ?_)
  · replace c1 := (bz_0 _).mp c1
    refine lv_ldc hx hb hf.2.2.2.1 (hf.2.2.2.2 _ q154) dX8_lead_19 ?_
    exact e_i hf hr hlocks hw rfl ((if_neg c1).trans rfl) dX8_lead_21
  · replace c1 := (bz_n0 _).mp c1
    have c1a := (ni_of hI.2.1 (by decide) c1.1)
    have c1ab : a.toNatClampNeg < 6 := Nat.lt_of_lt_of_le c1a.2 (Nat.le_of_lt_succ hI.2.1.2)
    have c1w := (ni_of (hI.2.2.2 _ c1ab).2.2 (by decide) c1.2)
    have c1wb : b.toNatClampNeg < 4 := Nat.lt_of_lt_of_le c1w.2 (Nat.le_of_lt_succ (hI.2.2.2 _ c1ab).2.2.2)
    refine lv_iload_n hx hb dX8_lead_9 rfl (lv_at hl 3 rfl) ?_
    refine lv_iconst (v := 0) hx hb dX8_lead_10 (by decide) ?_
    refine lv_ldc hx hb hf.2.2.2.1 (hf.2.2.2.2 _ q437) dX8_lead_11 ?_
    refine c_iR hw (run_S (As := [.int (w), .int 0, .int 50000]) (rest := []) (np := 3) hf hw (kn_X8_in l E _  w (0 : Int32) (50000 : Int32)  ) ⟨gl_S q207 q208 q5 q209, by decide +kernel⟩ ⟨rfl, rfl, Nat.le_of_ble_eq_true rfl, Nat.le_of_ble_eq_true rfl⟩ rfl hl.1 rfl (Nat.le_of_ble_eq_true rfl) dX8_lead_13 ⟨Nat.zero_le _, Nat.zero_le _⟩) (fun H locs hw => ?_)
    refine lv_if_ne (tgt := 22) hx hb dX8_lead_16 (by decide) (fun c2 => ?_) (fun c2 => ?_)
    · replace c2 := (bz_n0 _).mp c2
      have c2a := (na_lit 50000 rfl (by decide) c2)
      have c2ab : w.toNatClampNeg < 50001 := c2a.2
      refine lv_aload_n hx hb dX8_lead_22 rfl (lv_at hl 0 rfl) ?_
      refine c_v hw (run_V (As := []) (rest := []) (np := 0) hf hw (kn_X8_keeps l E _    ) ⟨gl_V q146 q147 q148 q5 q149, by decide +kernel⟩ ⟨rfl, rfl, Nat.le_of_ble_eq_true rfl, Nat.le_of_ble_eq_true rfl⟩ (by decide) (c_R E _) rfl rfl hl.1 rfl (Nat.le_of_ble_eq_true rfl) dX8_lead_23 ⟨Nat.zero_le _, Nat.zero_le _⟩) (fun H locs hw => ?_)
      refine lv_aload_n hx hb dX8_lead_26 rfl (lv_at hl 0 rfl) ?_
      refine lv_iload_n hx hb dX8_lead_27 rfl (lv_at hl 1 rfl) ?_
      refine fold_i (show a = nI (a.toNatClampNeg) from c1a.1) ?_
      refine lv_iconst (v := 5) hx hb dX8_lead_28 (by decide) ?_
      refine lv_iload_n hx hb dX8_lead_29 rfl (lv_at hl 2 rfl) ?_
      refine fold_i (show b = nI (b.toNatClampNeg) from c1w.1) ?_
      refine lv_iadd hx hb dX8_lead_30 ?_
      refine fold_i (show (5 : Int32) + nI (b.toNatClampNeg) = nI (5 + b.toNatClampNeg) from nI_add (5) (b.toNatClampNeg)) ?_
      refine c_iR hw (run_V (As := [.int (nI (a.toNatClampNeg)), .int (nI (5 + b.toNatClampNeg))]) (rest := []) (np := 2) hf hw (kn_X8_of l E _  a.toNatClampNeg (5 + b.toNatClampNeg)  (show a.toNatClampNeg < 6 from c1ab) (show 5 + b.toNatClampNeg < 29 from (by omega))) ⟨gl_V q227 q228 q229 q5 q230, by decide +kernel⟩ ⟨rfl, rfl, Nat.le_of_ble_eq_true rfl, Nat.le_of_ble_eq_true rfl⟩ (by decide) (c_R E _) rfl rfl hl.1 rfl (Nat.le_of_ble_eq_true rfl) dX8_lead_31 ⟨Nat.zero_le _, Nat.zero_le _⟩) (fun H locs hw => ?_)
      refine fold_i (y := (μ.1 8 (85 + 29 * a.toNatClampNeg + (5 + b.toNatClampNeg)))) (by first | rfl | (simp [pM, pJ, upM, upJ, upM_r, tk_M, tk_K, tk_0, tk_1, tk_2, tk_3, tk_4, tk_5, tk_6, tk_7, tk_8, tk_9, tk_10, tk_o, ms_0_0, ms_0_1, ms_0_2, ms_0_3, ms_0_4, ms_0_5, ms_0_6, ms_0_7, ms_0_8, ms_0_9, ms_0_10, ms_1_0, ms_1_1, ms_1_2, ms_1_3, ms_1_4, ms_1_5, ms_1_6, ms_1_7, ms_1_8, ms_1_9, ms_1_10, ms_w, ms_r, ms_d, ms_M, ms_6, ms_K, pC_row]; done) | (simp (disch := (first | omega | (simp only [tN, tD, tR, sF]; omega))) only [pM, pJ, upM_s, upM_k, upM_c, upJ_s, upJ_k, upJ_c, tk_M, tk_K, tk_0, tk_1, tk_2, tk_3, tk_4, tk_5, tk_6, tk_7, tk_8, tk_9, tk_10, tk_o, ms_0_0, ms_0_1, ms_0_2, ms_0_3, ms_0_4, ms_0_5, ms_0_6, ms_0_7, ms_0_8, ms_0_9, ms_0_10, ms_1_0, ms_1_1, ms_1_2, ms_1_3, ms_1_4, ms_1_5, ms_1_6, ms_1_7, ms_1_8, ms_1_9, ms_1_10, ms_w, ms_r, ms_d, ms_M, ms_6, ms_K, pC_row]; done) | rfl) ?_
      refine lv_istore (lv' := [(4, .int ((μ.1 8 (85 + 29 * a.toNatClampNeg + (5 + b.toNatClampNeg))))), (0, .ref (E.1 (232))), (1, .int (a)), (2, .int (b)), (3, .int (w))]) hx hb dX8_lead_34 hl (by decide) rfl (fun ls hl => ?_)
      refine lv_aload_n hx hb dX8_lead_36 rfl (lv_at hl 1 rfl) ?_
      refine lv_iload_n hx hb dX8_lead_37 rfl (lv_at hl 2 rfl) ?_
      refine fold_i (show a = nI (a.toNatClampNeg) from c1a.1) ?_
      refine lv_iconst (v := 5) hx hb dX8_lead_38 (by decide) ?_
      refine lv_iload_n hx hb dX8_lead_39 rfl (lv_at hl 3 rfl) ?_
      refine fold_i (show b = nI (b.toNatClampNeg) from c1w.1) ?_
      refine lv_iadd hx hb dX8_lead_40 ?_
      refine fold_i (show (5 : Int32) + nI (b.toNatClampNeg) = nI (5 + b.toNatClampNeg) from nI_add (5) (b.toNatClampNeg)) ?_
      refine lv_iload_n hx hb dX8_lead_41 rfl (lv_at hl 4 rfl) ?_
      refine fold_i (show w = nI (w.toNatClampNeg) from c2a.1) ?_
      refine c_v hw (run_V (As := [.int (nI (a.toNatClampNeg)), .int (nI (5 + b.toNatClampNeg)), .int (nI (w.toNatClampNeg))]) (rest := []) (np := 3) hf hw (kn_X8_put l E _  a.toNatClampNeg (5 + b.toNatClampNeg) (nI (w.toNatClampNeg))  (show a.toNatClampNeg < 6 from c1ab) (show 5 + b.toNatClampNeg < 29 from (by omega))) ⟨gl_V q335 q336 q337 q5 q338, by decide +kernel⟩ ⟨rfl, rfl, Nat.le_of_ble_eq_true rfl, Nat.le_of_ble_eq_true rfl⟩ (by decide) (c_R E _) rfl rfl hl.1 rfl (Nat.le_of_ble_eq_true rfl) dX8_lead_42 ⟨Nat.zero_le _, Nat.zero_le _⟩) (fun H locs hw => ?_)
      refine lv_aload_n hx hb dX8_lead_45 rfl (lv_at hl 1 rfl) ?_
      refine lv_iload hx hb dX8_lead_46 (lv_at hl 0 rfl) ?_
      refine c_i hw (run_V (As := [.int ((μ.1 8 (85 + 29 * a.toNatClampNeg + (5 + b.toNatClampNeg))))]) (rest := []) (np := 1) hf hw (k_X8_acted l E _  (μ.1 8 (85 + 29 * a.toNatClampNeg + (5 + b.toNatClampNeg)))  (s7_ni (x := μ.1 7 0) (s7_pM (by decide) (s7_pC (by decide) (rfl : S7 (μ.1 7 0) μ))) hst)) ⟨gl_V q150 q151 q152 q5 q153, by decide +kernel⟩ ⟨rfl, rfl, Nat.le_of_ble_eq_true rfl, Nat.le_of_ble_eq_true rfl⟩ (by decide) (c_R E _) rfl rfl hl.1 rfl (Nat.le_of_ble_eq_true rfl) dX8_lead_48 ⟨Nat.zero_le _, Nat.zero_le _⟩) (fun H locs hw => ?_)
      exact e_i hf hr hlocks hw rfl ((if_pos c1).trans ((if_pos c2).trans rfl)) dX8_lead_51
    · replace c2 := (bz_0 _).mp c2
      refine lv_ldc hx hb hf.2.2.2.1 (hf.2.2.2.2 _ q154) dX8_lead_19 ?_
      exact e_i hf hr hlocks hw rfl ((if_pos c1).trans ((if_neg c2).trans rfl)) dX8_lead_21
def sp_X8_strain (μ : Mu)  (a : Int32) (b : Int32) (w : Int32) : Int32 × Mu :=
  if 0 ≤ a ∧ a ≤ (μ.1 8 1) - 1 then
    if (0 : Int32) ≤ b ∧ b ≤ (2 : Int32) then
      if (nI (b.toNatClampNeg) : Int32) = 1 then
        if (nI (b.toNatClampNeg) : Int32) = 0 then
          if ((-100000) : Int32) ≤ w ∧ w ≤ (5000 : Int32) then
            ((sp_X8_acted (pM (pC μ 11 0 8 0 259) 8 (85 + 29 * a.toNatClampNeg + (9 + b.toNatClampNeg)) w)  (μ.1 8 (85 + 29 * a.toNatClampNeg + (9 + b.toNatClampNeg)))).1, (sp_X8_acted (pM (pC μ 11 0 8 0 259) 8 (85 + 29 * a.toNatClampNeg + (9 + b.toNatClampNeg)) w)  (μ.1 8 (85 + 29 * a.toNatClampNeg + (9 + b.toNatClampNeg)))).2)
          else
            ((-2000000001), μ)
        else
          if (nI (b.toNatClampNeg) : Int32) = 1 then
            if ((-100000) : Int32) ≤ w ∧ w ≤ (100000 : Int32) then
              ((sp_X8_acted (pM (pC μ 11 0 8 0 259) 8 (85 + 29 * a.toNatClampNeg + (9 + b.toNatClampNeg)) w)  (μ.1 8 (85 + 29 * a.toNatClampNeg + (9 + b.toNatClampNeg)))).1, (sp_X8_acted (pM (pC μ 11 0 8 0 259) 8 (85 + 29 * a.toNatClampNeg + (9 + b.toNatClampNeg)) w)  (μ.1 8 (85 + 29 * a.toNatClampNeg + (9 + b.toNatClampNeg)))).2)
            else
              ((-2000000001), μ)
          else
            if ((-100000) : Int32) ≤ w ∧ w ≤ (1 : Int32) then
              ((sp_X8_acted (pM (pC μ 11 0 8 0 259) 8 (85 + 29 * a.toNatClampNeg + (9 + b.toNatClampNeg)) w)  (μ.1 8 (85 + 29 * a.toNatClampNeg + (9 + b.toNatClampNeg)))).1, (sp_X8_acted (pM (pC μ 11 0 8 0 259) 8 (85 + 29 * a.toNatClampNeg + (9 + b.toNatClampNeg)) w)  (μ.1 8 (85 + 29 * a.toNatClampNeg + (9 + b.toNatClampNeg)))).2)
            else
              ((-2000000001), μ)
      else
        if (nI (b.toNatClampNeg) : Int32) = 0 then
          if (0 : Int32) ≤ w ∧ w ≤ (5000 : Int32) then
            ((sp_X8_acted (pM (pC μ 11 0 8 0 259) 8 (85 + 29 * a.toNatClampNeg + (9 + b.toNatClampNeg)) (nI (w.toNatClampNeg)))  (μ.1 8 (85 + 29 * a.toNatClampNeg + (9 + b.toNatClampNeg)))).1, (sp_X8_acted (pM (pC μ 11 0 8 0 259) 8 (85 + 29 * a.toNatClampNeg + (9 + b.toNatClampNeg)) (nI (w.toNatClampNeg)))  (μ.1 8 (85 + 29 * a.toNatClampNeg + (9 + b.toNatClampNeg)))).2)
          else
            ((-2000000001), μ)
        else
          if (nI (b.toNatClampNeg) : Int32) = 1 then
            if (0 : Int32) ≤ w ∧ w ≤ (100000 : Int32) then
              ((sp_X8_acted (pM (pC μ 11 0 8 0 259) 8 (85 + 29 * a.toNatClampNeg + (9 + b.toNatClampNeg)) (nI (w.toNatClampNeg)))  (μ.1 8 (85 + 29 * a.toNatClampNeg + (9 + b.toNatClampNeg)))).1, (sp_X8_acted (pM (pC μ 11 0 8 0 259) 8 (85 + 29 * a.toNatClampNeg + (9 + b.toNatClampNeg)) (nI (w.toNatClampNeg)))  (μ.1 8 (85 + 29 * a.toNatClampNeg + (9 + b.toNatClampNeg)))).2)
            else
              ((-2000000001), μ)
          else
            if (0 : Int32) ≤ w ∧ w ≤ (1 : Int32) then
              ((sp_X8_acted (pM (pC μ 11 0 8 0 259) 8 (85 + 29 * a.toNatClampNeg + (9 + b.toNatClampNeg)) (nI (w.toNatClampNeg)))  (μ.1 8 (85 + 29 * a.toNatClampNeg + (9 + b.toNatClampNeg)))).1, (sp_X8_acted (pM (pC μ 11 0 8 0 259) 8 (85 + 29 * a.toNatClampNeg + (9 + b.toNatClampNeg)) (nI (w.toNatClampNeg)))  (μ.1 8 (85 + 29 * a.toNatClampNeg + (9 + b.toNatClampNeg)))).2)
            else
              ((-2000000001), μ)
    else
      ((-2000000001), μ)
  else
    ((-2000000001), μ)
set_option maxHeartbeats 4000000 in
set_option maxRecDepth 100000 in
theorem k_X8_strain (l : Launch) (E : En) (μ : Mu)  (a : Int32) (b : Int32) (w : Int32) (hI : RI (μ.1 8)) (hst : ni 5 (μ.1 7 0)) : MtI l yX8_strain cX8_strain 5 .int ({ frames := 2, cells := 0, slots := 0, locals := 43 }) [.ref (E.1 (232)), .int (a), .int (b), .int (w)] E μ (sp_X8_strain μ a b w) := by
  refine mt_of (by decide +kernel) (Nat.le_of_ble_eq_true rfl) ?_
  intro p e s m args below meth c ls hf hr hlocks hl hw
  have hx := hf.1
  have hb := hf.2.1
  have hl : lv_has ls 5 [(0, .ref (E.1 (232))), (1, .int (a)), (2, .int (b)), (3, .int (w))] := hl
  refine lv_aload_n hx hb dX8_strain_0 rfl (lv_at hl 0 rfl) ?_
  refine lv_iload_n hx hb dX8_strain_1 rfl (lv_at hl 1 rfl) ?_
  refine c_iR hw (run_V (As := [.int (a)]) (rest := []) (np := 1) hf hw (kn_X8_isSensor l E _  a  ) ⟨gl_V q370 q371 q372 q5 q373, by decide +kernel⟩ ⟨rfl, rfl, Nat.le_of_ble_eq_true rfl, Nat.le_of_ble_eq_true rfl⟩ (by decide) (c_R E _) rfl rfl hl.1 rfl (Nat.le_of_ble_eq_true rfl) dX8_strain_2 ⟨Nat.zero_le _, Nat.zero_le _⟩) (fun H locs hw => ?_)
  refine lv_if_eq (tgt := 56) hx hb dX8_strain_5 (by decide) (fun c1 => ?_) (fun c1 => ?_)
  · replace c1 := (bz_0 _).mp c1
    refine lv_ldc hx hb hf.2.2.2.1 (hf.2.2.2.2 _ q154) dX8_strain_56 ?_
    exact e_i hf hr hlocks hw rfl ((if_neg c1).trans rfl) dX8_strain_58
  · replace c1 := (bz_n0 _).mp c1
    have c1a := (ni_of hI.2.1 (by decide) c1)
    have c1ab : a.toNatClampNeg < 6 := Nat.lt_of_lt_of_le c1a.2 (Nat.le_of_lt_succ hI.2.1.2)
    refine lv_iload_n hx hb dX8_strain_8 rfl (lv_at hl 2 rfl) ?_
    refine lv_iconst (v := 0) hx hb dX8_strain_9 (by decide) ?_
    refine lv_iconst (v := 2) hx hb dX8_strain_10 (by decide) ?_
    refine c_iR hw (run_S (As := [.int (b), .int 0, .int 2]) (rest := []) (np := 3) hf hw (kn_X8_in l E _  b (0 : Int32) (2 : Int32)  ) ⟨gl_S q207 q208 q5 q209, by decide +kernel⟩ ⟨rfl, rfl, Nat.le_of_ble_eq_true rfl, Nat.le_of_ble_eq_true rfl⟩ rfl hl.1 rfl (Nat.le_of_ble_eq_true rfl) dX8_strain_11 ⟨Nat.zero_le _, Nat.zero_le _⟩) (fun H locs hw => ?_)
    refine lv_if_eq (tgt := 56) hx hb dX8_strain_14 (by decide) (fun c2 => ?_) (fun c2 => ?_)
    · replace c2 := (bz_0 _).mp c2
      refine lv_ldc hx hb hf.2.2.2.1 (hf.2.2.2.2 _ q154) dX8_strain_56 ?_
      exact e_i hf hr hlocks hw rfl ((if_pos c1).trans ((if_neg c2).trans rfl)) dX8_strain_58
    · replace c2 := (bz_n0 _).mp c2
      have c2a := (na_lit 2 rfl (by decide) c2)
      have c2ab : b.toNatClampNeg < 3 := c2a.2
      refine lv_iload_n hx hb dX8_strain_17 rfl (lv_at hl 3 rfl) ?_
      refine lv_iload_n hx hb dX8_strain_18 rfl (lv_at hl 2 rfl) ?_
      refine fold_i (show b = nI (b.toNatClampNeg) from c2a.1) ?_
      refine lv_iconst (v := 1) hx hb dX8_strain_19 (by decide) ?_
      refine lv_icmp_ne (tgt := 28) hx hb dX8_strain_20 (by decide) (fun c3 => ?_) (fun c3 => ?_)
      · have c3n : ¬ (b.toNatClampNeg) = 1 := by have q := (nI_eq (a := (b.toNatClampNeg)) (b := 1) (by omega) (by omega)); first | exact q.mp c3 | exact fun z => c3 (q.mpr z)
        refine lv_iconst (v := 0) hx hb dX8_strain_28 (by decide) ?_
        refine lv_iload_n hx hb dX8_strain_29 rfl (lv_at hl 2 rfl) ?_
        refine fold_i (show b = nI (b.toNatClampNeg) from c2a.1) ?_
        refine lv_if_ne (tgt := 39) hx hb dX8_strain_30 (by decide) (fun c4 => ?_) (fun c4 => ?_)
        · have c4n : ¬ (b.toNatClampNeg) = 0 := by have q := (nI_eq (a := (b.toNatClampNeg)) (b := 0) (by omega) (by omega)); first | exact q.mp c4 | exact fun z => c4 (q.mpr z)
          refine lv_iload_n hx hb dX8_strain_39 rfl (lv_at hl 2 rfl) ?_
          refine fold_i (show b = nI (b.toNatClampNeg) from c2a.1) ?_
          refine lv_iconst (v := 1) hx hb dX8_strain_40 (by decide) ?_
          refine lv_icmp_ne (tgt := 49) hx hb dX8_strain_41 (by decide) (fun c5 => ?_) (fun c5 => ?_)
          · have c5n : ¬ (b.toNatClampNeg) = 1 := by have q := (nI_eq (a := (b.toNatClampNeg)) (b := 1) (by omega) (by omega)); first | exact q.mp c5 | exact fun z => c5 (q.mpr z)
            refine lv_iconst (v := 1) hx hb dX8_strain_49 (by decide) ?_
            refine c_iR hw (run_S (As := [.int (w), .int 0, .int 1]) (rest := []) (np := 3) hf hw (kn_X8_in l E _  w (0 : Int32) (1 : Int32)  ) ⟨gl_S q207 q208 q5 q209, by decide +kernel⟩ ⟨rfl, rfl, Nat.le_of_ble_eq_true rfl, Nat.le_of_ble_eq_true rfl⟩ rfl hl.1 rfl (Nat.le_of_ble_eq_true rfl) dX8_strain_50 ⟨Nat.zero_le _, Nat.zero_le _⟩) (fun H locs hw => ?_)
            refine lv_if_ne (tgt := 59) hx hb dX8_strain_53 (by decide) (fun c6 => ?_) (fun c6 => ?_)
            · replace c6 := (bz_n0 _).mp c6
              have c6a := (na_lit 1 rfl (by decide) c6)
              have c6ab : w.toNatClampNeg < 2 := c6a.2
              refine lv_aload_n hx hb dX8_strain_59 rfl (lv_at hl 0 rfl) ?_
              refine c_v hw (run_V (As := []) (rest := []) (np := 0) hf hw (kn_X8_keeps l E _    ) ⟨gl_V q146 q147 q148 q5 q149, by decide +kernel⟩ ⟨rfl, rfl, Nat.le_of_ble_eq_true rfl, Nat.le_of_ble_eq_true rfl⟩ (by decide) (c_R E _) rfl rfl hl.1 rfl (Nat.le_of_ble_eq_true rfl) dX8_strain_60 ⟨Nat.zero_le _, Nat.zero_le _⟩) (fun H locs hw => ?_)
              refine lv_aload_n hx hb dX8_strain_63 rfl (lv_at hl 0 rfl) ?_
              refine lv_iload_n hx hb dX8_strain_64 rfl (lv_at hl 1 rfl) ?_
              refine fold_i (show a = nI (a.toNatClampNeg) from c1a.1) ?_
              refine lv_bipush (v := 9) hx hb dX8_strain_65 (by decide) ?_
              refine lv_iload_n hx hb dX8_strain_67 rfl (lv_at hl 2 rfl) ?_
              refine fold_i (show b = nI (b.toNatClampNeg) from c2a.1) ?_
              refine lv_iadd hx hb dX8_strain_68 ?_
              refine fold_i (show (9 : Int32) + nI (b.toNatClampNeg) = nI (9 + b.toNatClampNeg) from nI_add (9) (b.toNatClampNeg)) ?_
              refine c_iR hw (run_V (As := [.int (nI (a.toNatClampNeg)), .int (nI (9 + b.toNatClampNeg))]) (rest := []) (np := 2) hf hw (kn_X8_of l E _  a.toNatClampNeg (9 + b.toNatClampNeg)  (show a.toNatClampNeg < 6 from c1ab) (show 9 + b.toNatClampNeg < 29 from (by omega))) ⟨gl_V q227 q228 q229 q5 q230, by decide +kernel⟩ ⟨rfl, rfl, Nat.le_of_ble_eq_true rfl, Nat.le_of_ble_eq_true rfl⟩ (by decide) (c_R E _) rfl rfl hl.1 rfl (Nat.le_of_ble_eq_true rfl) dX8_strain_69 ⟨Nat.zero_le _, Nat.zero_le _⟩) (fun H locs hw => ?_)
              refine fold_i (y := (μ.1 8 (85 + 29 * a.toNatClampNeg + (9 + b.toNatClampNeg)))) (by first | rfl | (simp [pM, pJ, upM, upJ, upM_r, tk_M, tk_K, tk_0, tk_1, tk_2, tk_3, tk_4, tk_5, tk_6, tk_7, tk_8, tk_9, tk_10, tk_o, ms_0_0, ms_0_1, ms_0_2, ms_0_3, ms_0_4, ms_0_5, ms_0_6, ms_0_7, ms_0_8, ms_0_9, ms_0_10, ms_1_0, ms_1_1, ms_1_2, ms_1_3, ms_1_4, ms_1_5, ms_1_6, ms_1_7, ms_1_8, ms_1_9, ms_1_10, ms_w, ms_r, ms_d, ms_M, ms_6, ms_K, pC_row]; done) | (simp (disch := (first | omega | (simp only [tN, tD, tR, sF]; omega))) only [pM, pJ, upM_s, upM_k, upM_c, upJ_s, upJ_k, upJ_c, tk_M, tk_K, tk_0, tk_1, tk_2, tk_3, tk_4, tk_5, tk_6, tk_7, tk_8, tk_9, tk_10, tk_o, ms_0_0, ms_0_1, ms_0_2, ms_0_3, ms_0_4, ms_0_5, ms_0_6, ms_0_7, ms_0_8, ms_0_9, ms_0_10, ms_1_0, ms_1_1, ms_1_2, ms_1_3, ms_1_4, ms_1_5, ms_1_6, ms_1_7, ms_1_8, ms_1_9, ms_1_10, ms_w, ms_r, ms_d, ms_M, ms_6, ms_K, pC_row]; done) | rfl) ?_
              refine lv_istore (lv' := [(4, .int ((μ.1 8 (85 + 29 * a.toNatClampNeg + (9 + b.toNatClampNeg))))), (0, .ref (E.1 (232))), (1, .int (a)), (2, .int (b)), (3, .int (w))]) hx hb dX8_strain_72 hl (by decide) rfl (fun ls hl => ?_)
              refine lv_aload_n hx hb dX8_strain_74 rfl (lv_at hl 1 rfl) ?_
              refine lv_iload_n hx hb dX8_strain_75 rfl (lv_at hl 2 rfl) ?_
              refine fold_i (show a = nI (a.toNatClampNeg) from c1a.1) ?_
              refine lv_bipush (v := 9) hx hb dX8_strain_76 (by decide) ?_
              refine lv_iload_n hx hb dX8_strain_78 rfl (lv_at hl 3 rfl) ?_
              refine fold_i (show b = nI (b.toNatClampNeg) from c2a.1) ?_
              refine lv_iadd hx hb dX8_strain_79 ?_
              refine fold_i (show (9 : Int32) + nI (b.toNatClampNeg) = nI (9 + b.toNatClampNeg) from nI_add (9) (b.toNatClampNeg)) ?_
              refine lv_iload_n hx hb dX8_strain_80 rfl (lv_at hl 4 rfl) ?_
              refine fold_i (show w = nI (w.toNatClampNeg) from c6a.1) ?_
              refine c_v hw (run_V (As := [.int (nI (a.toNatClampNeg)), .int (nI (9 + b.toNatClampNeg)), .int (nI (w.toNatClampNeg))]) (rest := []) (np := 3) hf hw (kn_X8_put l E _  a.toNatClampNeg (9 + b.toNatClampNeg) (nI (w.toNatClampNeg))  (show a.toNatClampNeg < 6 from c1ab) (show 9 + b.toNatClampNeg < 29 from (by omega))) ⟨gl_V q335 q336 q337 q5 q338, by decide +kernel⟩ ⟨rfl, rfl, Nat.le_of_ble_eq_true rfl, Nat.le_of_ble_eq_true rfl⟩ (by decide) (c_R E _) rfl rfl hl.1 rfl (Nat.le_of_ble_eq_true rfl) dX8_strain_81 ⟨Nat.zero_le _, Nat.zero_le _⟩) (fun H locs hw => ?_)
              refine lv_aload_n hx hb dX8_strain_84 rfl (lv_at hl 1 rfl) ?_
              refine lv_iload hx hb dX8_strain_85 (lv_at hl 0 rfl) ?_
              refine c_i hw (run_V (As := [.int ((μ.1 8 (85 + 29 * a.toNatClampNeg + (9 + b.toNatClampNeg))))]) (rest := []) (np := 1) hf hw (k_X8_acted l E _  (μ.1 8 (85 + 29 * a.toNatClampNeg + (9 + b.toNatClampNeg)))  (s7_ni (x := μ.1 7 0) (s7_pM (by decide) (s7_pC (by decide) (rfl : S7 (μ.1 7 0) μ))) hst)) ⟨gl_V q150 q151 q152 q5 q153, by decide +kernel⟩ ⟨rfl, rfl, Nat.le_of_ble_eq_true rfl, Nat.le_of_ble_eq_true rfl⟩ (by decide) (c_R E _) rfl rfl hl.1 rfl (Nat.le_of_ble_eq_true rfl) dX8_strain_87 ⟨Nat.zero_le _, Nat.zero_le _⟩) (fun H locs hw => ?_)
              exact e_i hf hr hlocks hw rfl ((if_pos c1).trans ((if_pos c2).trans ((if_neg c3).trans ((if_neg c4).trans ((if_neg c5).trans ((if_pos c6).trans rfl)))))) dX8_strain_90
            · replace c6 := (bz_0 _).mp c6
              refine lv_ldc hx hb hf.2.2.2.1 (hf.2.2.2.2 _ q154) dX8_strain_56 ?_
              exact e_i hf hr hlocks hw rfl ((if_pos c1).trans ((if_pos c2).trans ((if_neg c3).trans ((if_neg c4).trans ((if_neg c5).trans ((if_neg c6).trans rfl)))))) dX8_strain_58
          · have c5n : (b.toNatClampNeg) = 1 := by have q := (nI_eq (a := (b.toNatClampNeg)) (b := 1) (by omega) (by omega)); first | exact q.mp c5 | exact fun z => c5 (q.mpr z)
            refine lv_ldc hx hb hf.2.2.2.1 (hf.2.2.2.2 _ q97) dX8_strain_44 ?_
            refine lv_goto (tgt := 50) hx hb dX8_strain_46 (by decide) ?_
            refine c_iR hw (run_S (As := [.int (w), .int 0, .int 100000]) (rest := []) (np := 3) hf hw (kn_X8_in l E _  w (0 : Int32) (100000 : Int32)  ) ⟨gl_S q207 q208 q5 q209, by decide +kernel⟩ ⟨rfl, rfl, Nat.le_of_ble_eq_true rfl, Nat.le_of_ble_eq_true rfl⟩ rfl hl.1 rfl (Nat.le_of_ble_eq_true rfl) dX8_strain_50 ⟨Nat.zero_le _, Nat.zero_le _⟩) (fun H locs hw => ?_)
            refine lv_if_ne (tgt := 59) hx hb dX8_strain_53 (by decide) (fun c7 => ?_) (fun c7 => ?_)
            · replace c7 := (bz_n0 _).mp c7
              have c7a := (na_lit 100000 rfl (by decide) c7)
              have c7ab : w.toNatClampNeg < 100001 := c7a.2
              refine lv_aload_n hx hb dX8_strain_59 rfl (lv_at hl 0 rfl) ?_
              refine c_v hw (run_V (As := []) (rest := []) (np := 0) hf hw (kn_X8_keeps l E _    ) ⟨gl_V q146 q147 q148 q5 q149, by decide +kernel⟩ ⟨rfl, rfl, Nat.le_of_ble_eq_true rfl, Nat.le_of_ble_eq_true rfl⟩ (by decide) (c_R E _) rfl rfl hl.1 rfl (Nat.le_of_ble_eq_true rfl) dX8_strain_60 ⟨Nat.zero_le _, Nat.zero_le _⟩) (fun H locs hw => ?_)
              refine lv_aload_n hx hb dX8_strain_63 rfl (lv_at hl 0 rfl) ?_
              refine lv_iload_n hx hb dX8_strain_64 rfl (lv_at hl 1 rfl) ?_
              refine fold_i (show a = nI (a.toNatClampNeg) from c1a.1) ?_
              refine lv_bipush (v := 9) hx hb dX8_strain_65 (by decide) ?_
              refine lv_iload_n hx hb dX8_strain_67 rfl (lv_at hl 2 rfl) ?_
              refine fold_i (show b = nI (b.toNatClampNeg) from c2a.1) ?_
              refine lv_iadd hx hb dX8_strain_68 ?_
              refine fold_i (show (9 : Int32) + nI (b.toNatClampNeg) = nI (9 + b.toNatClampNeg) from nI_add (9) (b.toNatClampNeg)) ?_
              refine c_iR hw (run_V (As := [.int (nI (a.toNatClampNeg)), .int (nI (9 + b.toNatClampNeg))]) (rest := []) (np := 2) hf hw (kn_X8_of l E _  a.toNatClampNeg (9 + b.toNatClampNeg)  (show a.toNatClampNeg < 6 from c1ab) (show 9 + b.toNatClampNeg < 29 from (by omega))) ⟨gl_V q227 q228 q229 q5 q230, by decide +kernel⟩ ⟨rfl, rfl, Nat.le_of_ble_eq_true rfl, Nat.le_of_ble_eq_true rfl⟩ (by decide) (c_R E _) rfl rfl hl.1 rfl (Nat.le_of_ble_eq_true rfl) dX8_strain_69 ⟨Nat.zero_le _, Nat.zero_le _⟩) (fun H locs hw => ?_)
              refine fold_i (y := (μ.1 8 (85 + 29 * a.toNatClampNeg + (9 + b.toNatClampNeg)))) (by first | rfl | (simp [pM, pJ, upM, upJ, upM_r, tk_M, tk_K, tk_0, tk_1, tk_2, tk_3, tk_4, tk_5, tk_6, tk_7, tk_8, tk_9, tk_10, tk_o, ms_0_0, ms_0_1, ms_0_2, ms_0_3, ms_0_4, ms_0_5, ms_0_6, ms_0_7, ms_0_8, ms_0_9, ms_0_10, ms_1_0, ms_1_1, ms_1_2, ms_1_3, ms_1_4, ms_1_5, ms_1_6, ms_1_7, ms_1_8, ms_1_9, ms_1_10, ms_w, ms_r, ms_d, ms_M, ms_6, ms_K, pC_row]; done) | (simp (disch := (first | omega | (simp only [tN, tD, tR, sF]; omega))) only [pM, pJ, upM_s, upM_k, upM_c, upJ_s, upJ_k, upJ_c, tk_M, tk_K, tk_0, tk_1, tk_2, tk_3, tk_4, tk_5, tk_6, tk_7, tk_8, tk_9, tk_10, tk_o, ms_0_0, ms_0_1, ms_0_2, ms_0_3, ms_0_4, ms_0_5, ms_0_6, ms_0_7, ms_0_8, ms_0_9, ms_0_10, ms_1_0, ms_1_1, ms_1_2, ms_1_3, ms_1_4, ms_1_5, ms_1_6, ms_1_7, ms_1_8, ms_1_9, ms_1_10, ms_w, ms_r, ms_d, ms_M, ms_6, ms_K, pC_row]; done) | rfl) ?_
              refine lv_istore (lv' := [(4, .int ((μ.1 8 (85 + 29 * a.toNatClampNeg + (9 + b.toNatClampNeg))))), (0, .ref (E.1 (232))), (1, .int (a)), (2, .int (b)), (3, .int (w))]) hx hb dX8_strain_72 hl (by decide) rfl (fun ls hl => ?_)
              refine lv_aload_n hx hb dX8_strain_74 rfl (lv_at hl 1 rfl) ?_
              refine lv_iload_n hx hb dX8_strain_75 rfl (lv_at hl 2 rfl) ?_
              refine fold_i (show a = nI (a.toNatClampNeg) from c1a.1) ?_
              refine lv_bipush (v := 9) hx hb dX8_strain_76 (by decide) ?_
              refine lv_iload_n hx hb dX8_strain_78 rfl (lv_at hl 3 rfl) ?_
              refine fold_i (show b = nI (b.toNatClampNeg) from c2a.1) ?_
              refine lv_iadd hx hb dX8_strain_79 ?_
              refine fold_i (show (9 : Int32) + nI (b.toNatClampNeg) = nI (9 + b.toNatClampNeg) from nI_add (9) (b.toNatClampNeg)) ?_
              refine lv_iload_n hx hb dX8_strain_80 rfl (lv_at hl 4 rfl) ?_
              refine fold_i (show w = nI (w.toNatClampNeg) from c7a.1) ?_
              refine c_v hw (run_V (As := [.int (nI (a.toNatClampNeg)), .int (nI (9 + b.toNatClampNeg)), .int (nI (w.toNatClampNeg))]) (rest := []) (np := 3) hf hw (kn_X8_put l E _  a.toNatClampNeg (9 + b.toNatClampNeg) (nI (w.toNatClampNeg))  (show a.toNatClampNeg < 6 from c1ab) (show 9 + b.toNatClampNeg < 29 from (by omega))) ⟨gl_V q335 q336 q337 q5 q338, by decide +kernel⟩ ⟨rfl, rfl, Nat.le_of_ble_eq_true rfl, Nat.le_of_ble_eq_true rfl⟩ (by decide) (c_R E _) rfl rfl hl.1 rfl (Nat.le_of_ble_eq_true rfl) dX8_strain_81 ⟨Nat.zero_le _, Nat.zero_le _⟩) (fun H locs hw => ?_)
              refine lv_aload_n hx hb dX8_strain_84 rfl (lv_at hl 1 rfl) ?_
              refine lv_iload hx hb dX8_strain_85 (lv_at hl 0 rfl) ?_
              refine c_i hw (run_V (As := [.int ((μ.1 8 (85 + 29 * a.toNatClampNeg + (9 + b.toNatClampNeg))))]) (rest := []) (np := 1) hf hw (k_X8_acted l E _  (μ.1 8 (85 + 29 * a.toNatClampNeg + (9 + b.toNatClampNeg)))  (s7_ni (x := μ.1 7 0) (s7_pM (by decide) (s7_pC (by decide) (rfl : S7 (μ.1 7 0) μ))) hst)) ⟨gl_V q150 q151 q152 q5 q153, by decide +kernel⟩ ⟨rfl, rfl, Nat.le_of_ble_eq_true rfl, Nat.le_of_ble_eq_true rfl⟩ (by decide) (c_R E _) rfl rfl hl.1 rfl (Nat.le_of_ble_eq_true rfl) dX8_strain_87 ⟨Nat.zero_le _, Nat.zero_le _⟩) (fun H locs hw => ?_)
              exact e_i hf hr hlocks hw rfl ((if_pos c1).trans ((if_pos c2).trans ((if_neg c3).trans ((if_neg c4).trans ((if_pos c5).trans ((if_pos c7).trans rfl)))))) dX8_strain_90
            · replace c7 := (bz_0 _).mp c7
              refine lv_ldc hx hb hf.2.2.2.1 (hf.2.2.2.2 _ q154) dX8_strain_56 ?_
              exact e_i hf hr hlocks hw rfl ((if_pos c1).trans ((if_pos c2).trans ((if_neg c3).trans ((if_neg c4).trans ((if_pos c5).trans ((if_neg c7).trans rfl)))))) dX8_strain_58
        · have c4n : (b.toNatClampNeg) = 0 := by have q := (nI_eq (a := (b.toNatClampNeg)) (b := 0) (by omega) (by omega)); first | exact q.mp c4 | exact fun z => c4 (q.mpr z)
          refine lv_sipush (v := 5000) hx hb dX8_strain_33 (by decide) ?_
          refine lv_goto (tgt := 50) hx hb dX8_strain_36 (by decide) ?_
          refine c_iR hw (run_S (As := [.int (w), .int 0, .int 5000]) (rest := []) (np := 3) hf hw (kn_X8_in l E _  w (0 : Int32) (5000 : Int32)  ) ⟨gl_S q207 q208 q5 q209, by decide +kernel⟩ ⟨rfl, rfl, Nat.le_of_ble_eq_true rfl, Nat.le_of_ble_eq_true rfl⟩ rfl hl.1 rfl (Nat.le_of_ble_eq_true rfl) dX8_strain_50 ⟨Nat.zero_le _, Nat.zero_le _⟩) (fun H locs hw => ?_)
          refine lv_if_ne (tgt := 59) hx hb dX8_strain_53 (by decide) (fun c8 => ?_) (fun c8 => ?_)
          · replace c8 := (bz_n0 _).mp c8
            have c8a := (na_lit 5000 rfl (by decide) c8)
            have c8ab : w.toNatClampNeg < 5001 := c8a.2
            refine lv_aload_n hx hb dX8_strain_59 rfl (lv_at hl 0 rfl) ?_
            refine c_v hw (run_V (As := []) (rest := []) (np := 0) hf hw (kn_X8_keeps l E _    ) ⟨gl_V q146 q147 q148 q5 q149, by decide +kernel⟩ ⟨rfl, rfl, Nat.le_of_ble_eq_true rfl, Nat.le_of_ble_eq_true rfl⟩ (by decide) (c_R E _) rfl rfl hl.1 rfl (Nat.le_of_ble_eq_true rfl) dX8_strain_60 ⟨Nat.zero_le _, Nat.zero_le _⟩) (fun H locs hw => ?_)
            refine lv_aload_n hx hb dX8_strain_63 rfl (lv_at hl 0 rfl) ?_
            refine lv_iload_n hx hb dX8_strain_64 rfl (lv_at hl 1 rfl) ?_
            refine fold_i (show a = nI (a.toNatClampNeg) from c1a.1) ?_
            refine lv_bipush (v := 9) hx hb dX8_strain_65 (by decide) ?_
            refine lv_iload_n hx hb dX8_strain_67 rfl (lv_at hl 2 rfl) ?_
            refine fold_i (show b = nI (b.toNatClampNeg) from c2a.1) ?_
            refine lv_iadd hx hb dX8_strain_68 ?_
            refine fold_i (show (9 : Int32) + nI (b.toNatClampNeg) = nI (9 + b.toNatClampNeg) from nI_add (9) (b.toNatClampNeg)) ?_
            refine c_iR hw (run_V (As := [.int (nI (a.toNatClampNeg)), .int (nI (9 + b.toNatClampNeg))]) (rest := []) (np := 2) hf hw (kn_X8_of l E _  a.toNatClampNeg (9 + b.toNatClampNeg)  (show a.toNatClampNeg < 6 from c1ab) (show 9 + b.toNatClampNeg < 29 from (by omega))) ⟨gl_V q227 q228 q229 q5 q230, by decide +kernel⟩ ⟨rfl, rfl, Nat.le_of_ble_eq_true rfl, Nat.le_of_ble_eq_true rfl⟩ (by decide) (c_R E _) rfl rfl hl.1 rfl (Nat.le_of_ble_eq_true rfl) dX8_strain_69 ⟨Nat.zero_le _, Nat.zero_le _⟩) (fun H locs hw => ?_)
            refine fold_i (y := (μ.1 8 (85 + 29 * a.toNatClampNeg + (9 + b.toNatClampNeg)))) (by first | rfl | (simp [pM, pJ, upM, upJ, upM_r, tk_M, tk_K, tk_0, tk_1, tk_2, tk_3, tk_4, tk_5, tk_6, tk_7, tk_8, tk_9, tk_10, tk_o, ms_0_0, ms_0_1, ms_0_2, ms_0_3, ms_0_4, ms_0_5, ms_0_6, ms_0_7, ms_0_8, ms_0_9, ms_0_10, ms_1_0, ms_1_1, ms_1_2, ms_1_3, ms_1_4, ms_1_5, ms_1_6, ms_1_7, ms_1_8, ms_1_9, ms_1_10, ms_w, ms_r, ms_d, ms_M, ms_6, ms_K, pC_row]; done) | (simp (disch := (first | omega | (simp only [tN, tD, tR, sF]; omega))) only [pM, pJ, upM_s, upM_k, upM_c, upJ_s, upJ_k, upJ_c, tk_M, tk_K, tk_0, tk_1, tk_2, tk_3, tk_4, tk_5, tk_6, tk_7, tk_8, tk_9, tk_10, tk_o, ms_0_0, ms_0_1, ms_0_2, ms_0_3, ms_0_4, ms_0_5, ms_0_6, ms_0_7, ms_0_8, ms_0_9, ms_0_10, ms_1_0, ms_1_1, ms_1_2, ms_1_3, ms_1_4, ms_1_5, ms_1_6, ms_1_7, ms_1_8, ms_1_9, ms_1_10, ms_w, ms_r, ms_d, ms_M, ms_6, ms_K, pC_row]; done) | rfl) ?_
            refine lv_istore (lv' := [(4, .int ((μ.1 8 (85 + 29 * a.toNatClampNeg + (9 + b.toNatClampNeg))))), (0, .ref (E.1 (232))), (1, .int (a)), (2, .int (b)), (3, .int (w))]) hx hb dX8_strain_72 hl (by decide) rfl (fun ls hl => ?_)
            refine lv_aload_n hx hb dX8_strain_74 rfl (lv_at hl 1 rfl) ?_
            refine lv_iload_n hx hb dX8_strain_75 rfl (lv_at hl 2 rfl) ?_
            refine fold_i (show a = nI (a.toNatClampNeg) from c1a.1) ?_
            refine lv_bipush (v := 9) hx hb dX8_strain_76 (by decide) ?_
            refine lv_iload_n hx hb dX8_strain_78 rfl (lv_at hl 3 rfl) ?_
            refine fold_i (show b = nI (b.toNatClampNeg) from c2a.1) ?_
            refine lv_iadd hx hb dX8_strain_79 ?_
            refine fold_i (show (9 : Int32) + nI (b.toNatClampNeg) = nI (9 + b.toNatClampNeg) from nI_add (9) (b.toNatClampNeg)) ?_
            refine lv_iload_n hx hb dX8_strain_80 rfl (lv_at hl 4 rfl) ?_
            refine fold_i (show w = nI (w.toNatClampNeg) from c8a.1) ?_
            refine c_v hw (run_V (As := [.int (nI (a.toNatClampNeg)), .int (nI (9 + b.toNatClampNeg)), .int (nI (w.toNatClampNeg))]) (rest := []) (np := 3) hf hw (kn_X8_put l E _  a.toNatClampNeg (9 + b.toNatClampNeg) (nI (w.toNatClampNeg))  (show a.toNatClampNeg < 6 from c1ab) (show 9 + b.toNatClampNeg < 29 from (by omega))) ⟨gl_V q335 q336 q337 q5 q338, by decide +kernel⟩ ⟨rfl, rfl, Nat.le_of_ble_eq_true rfl, Nat.le_of_ble_eq_true rfl⟩ (by decide) (c_R E _) rfl rfl hl.1 rfl (Nat.le_of_ble_eq_true rfl) dX8_strain_81 ⟨Nat.zero_le _, Nat.zero_le _⟩) (fun H locs hw => ?_)
            refine lv_aload_n hx hb dX8_strain_84 rfl (lv_at hl 1 rfl) ?_
            refine lv_iload hx hb dX8_strain_85 (lv_at hl 0 rfl) ?_
            refine c_i hw (run_V (As := [.int ((μ.1 8 (85 + 29 * a.toNatClampNeg + (9 + b.toNatClampNeg))))]) (rest := []) (np := 1) hf hw (k_X8_acted l E _  (μ.1 8 (85 + 29 * a.toNatClampNeg + (9 + b.toNatClampNeg)))  (s7_ni (x := μ.1 7 0) (s7_pM (by decide) (s7_pC (by decide) (rfl : S7 (μ.1 7 0) μ))) hst)) ⟨gl_V q150 q151 q152 q5 q153, by decide +kernel⟩ ⟨rfl, rfl, Nat.le_of_ble_eq_true rfl, Nat.le_of_ble_eq_true rfl⟩ (by decide) (c_R E _) rfl rfl hl.1 rfl (Nat.le_of_ble_eq_true rfl) dX8_strain_87 ⟨Nat.zero_le _, Nat.zero_le _⟩) (fun H locs hw => ?_)
            exact e_i hf hr hlocks hw rfl ((if_pos c1).trans ((if_pos c2).trans ((if_neg c3).trans ((if_pos c4).trans ((if_pos c8).trans rfl))))) dX8_strain_90
          · replace c8 := (bz_0 _).mp c8
            refine lv_ldc hx hb hf.2.2.2.1 (hf.2.2.2.2 _ q154) dX8_strain_56 ?_
            exact e_i hf hr hlocks hw rfl ((if_pos c1).trans ((if_pos c2).trans ((if_neg c3).trans ((if_pos c4).trans ((if_neg c8).trans rfl))))) dX8_strain_58
      · have c3n : (b.toNatClampNeg) = 1 := by have q := (nI_eq (a := (b.toNatClampNeg)) (b := 1) (by omega) (by omega)); first | exact q.mp c3 | exact fun z => c3 (q.mpr z)
        refine lv_ldc hx hb hf.2.2.2.1 (hf.2.2.2.2 _ q463) dX8_strain_23 ?_
        refine lv_goto (tgt := 29) hx hb dX8_strain_25 (by decide) ?_
        refine lv_iload_n hx hb dX8_strain_29 rfl (lv_at hl 2 rfl) ?_
        refine fold_i (show b = nI (b.toNatClampNeg) from c2a.1) ?_
        refine lv_if_ne (tgt := 39) hx hb dX8_strain_30 (by decide) (fun c9 => ?_) (fun c9 => ?_)
        · have c9n : ¬ (b.toNatClampNeg) = 0 := by have q := (nI_eq (a := (b.toNatClampNeg)) (b := 0) (by omega) (by omega)); first | exact q.mp c9 | exact fun z => c9 (q.mpr z)
          refine lv_iload_n hx hb dX8_strain_39 rfl (lv_at hl 2 rfl) ?_
          refine fold_i (show b = nI (b.toNatClampNeg) from c2a.1) ?_
          refine lv_iconst (v := 1) hx hb dX8_strain_40 (by decide) ?_
          refine lv_icmp_ne (tgt := 49) hx hb dX8_strain_41 (by decide) (fun c10 => ?_) (fun c10 => ?_)
          · have c10n : ¬ (b.toNatClampNeg) = 1 := by have q := (nI_eq (a := (b.toNatClampNeg)) (b := 1) (by omega) (by omega)); first | exact q.mp c10 | exact fun z => c10 (q.mpr z)
            refine lv_iconst (v := 1) hx hb dX8_strain_49 (by decide) ?_
            refine c_iR hw (run_S (As := [.int (w), .int (-100000), .int 1]) (rest := []) (np := 3) hf hw (kn_X8_in l E _  w ((-100000) : Int32) (1 : Int32)  ) ⟨gl_S q207 q208 q5 q209, by decide +kernel⟩ ⟨rfl, rfl, Nat.le_of_ble_eq_true rfl, Nat.le_of_ble_eq_true rfl⟩ rfl hl.1 rfl (Nat.le_of_ble_eq_true rfl) dX8_strain_50 ⟨Nat.zero_le _, Nat.zero_le _⟩) (fun H locs hw => ?_)
            refine lv_if_ne (tgt := 59) hx hb dX8_strain_53 (by decide) (fun c11 => ?_) (fun c11 => ?_)
            · replace c11 := (bz_n0 _).mp c11
              refine lv_aload_n hx hb dX8_strain_59 rfl (lv_at hl 0 rfl) ?_
              refine c_v hw (run_V (As := []) (rest := []) (np := 0) hf hw (kn_X8_keeps l E _    ) ⟨gl_V q146 q147 q148 q5 q149, by decide +kernel⟩ ⟨rfl, rfl, Nat.le_of_ble_eq_true rfl, Nat.le_of_ble_eq_true rfl⟩ (by decide) (c_R E _) rfl rfl hl.1 rfl (Nat.le_of_ble_eq_true rfl) dX8_strain_60 ⟨Nat.zero_le _, Nat.zero_le _⟩) (fun H locs hw => ?_)
              refine lv_aload_n hx hb dX8_strain_63 rfl (lv_at hl 0 rfl) ?_
              refine lv_iload_n hx hb dX8_strain_64 rfl (lv_at hl 1 rfl) ?_
              refine fold_i (show a = nI (a.toNatClampNeg) from c1a.1) ?_
              refine lv_bipush (v := 9) hx hb dX8_strain_65 (by decide) ?_
              refine lv_iload_n hx hb dX8_strain_67 rfl (lv_at hl 2 rfl) ?_
              refine fold_i (show b = nI (b.toNatClampNeg) from c2a.1) ?_
              refine lv_iadd hx hb dX8_strain_68 ?_
              refine fold_i (show (9 : Int32) + nI (b.toNatClampNeg) = nI (9 + b.toNatClampNeg) from nI_add (9) (b.toNatClampNeg)) ?_
              refine c_iR hw (run_V (As := [.int (nI (a.toNatClampNeg)), .int (nI (9 + b.toNatClampNeg))]) (rest := []) (np := 2) hf hw (kn_X8_of l E _  a.toNatClampNeg (9 + b.toNatClampNeg)  (show a.toNatClampNeg < 6 from c1ab) (show 9 + b.toNatClampNeg < 29 from (by omega))) ⟨gl_V q227 q228 q229 q5 q230, by decide +kernel⟩ ⟨rfl, rfl, Nat.le_of_ble_eq_true rfl, Nat.le_of_ble_eq_true rfl⟩ (by decide) (c_R E _) rfl rfl hl.1 rfl (Nat.le_of_ble_eq_true rfl) dX8_strain_69 ⟨Nat.zero_le _, Nat.zero_le _⟩) (fun H locs hw => ?_)
              refine fold_i (y := (μ.1 8 (85 + 29 * a.toNatClampNeg + (9 + b.toNatClampNeg)))) (by first | rfl | (simp [pM, pJ, upM, upJ, upM_r, tk_M, tk_K, tk_0, tk_1, tk_2, tk_3, tk_4, tk_5, tk_6, tk_7, tk_8, tk_9, tk_10, tk_o, ms_0_0, ms_0_1, ms_0_2, ms_0_3, ms_0_4, ms_0_5, ms_0_6, ms_0_7, ms_0_8, ms_0_9, ms_0_10, ms_1_0, ms_1_1, ms_1_2, ms_1_3, ms_1_4, ms_1_5, ms_1_6, ms_1_7, ms_1_8, ms_1_9, ms_1_10, ms_w, ms_r, ms_d, ms_M, ms_6, ms_K, pC_row]; done) | (simp (disch := (first | omega | (simp only [tN, tD, tR, sF]; omega))) only [pM, pJ, upM_s, upM_k, upM_c, upJ_s, upJ_k, upJ_c, tk_M, tk_K, tk_0, tk_1, tk_2, tk_3, tk_4, tk_5, tk_6, tk_7, tk_8, tk_9, tk_10, tk_o, ms_0_0, ms_0_1, ms_0_2, ms_0_3, ms_0_4, ms_0_5, ms_0_6, ms_0_7, ms_0_8, ms_0_9, ms_0_10, ms_1_0, ms_1_1, ms_1_2, ms_1_3, ms_1_4, ms_1_5, ms_1_6, ms_1_7, ms_1_8, ms_1_9, ms_1_10, ms_w, ms_r, ms_d, ms_M, ms_6, ms_K, pC_row]; done) | rfl) ?_
              refine lv_istore (lv' := [(4, .int ((μ.1 8 (85 + 29 * a.toNatClampNeg + (9 + b.toNatClampNeg))))), (0, .ref (E.1 (232))), (1, .int (a)), (2, .int (b)), (3, .int (w))]) hx hb dX8_strain_72 hl (by decide) rfl (fun ls hl => ?_)
              refine lv_aload_n hx hb dX8_strain_74 rfl (lv_at hl 1 rfl) ?_
              refine lv_iload_n hx hb dX8_strain_75 rfl (lv_at hl 2 rfl) ?_
              refine fold_i (show a = nI (a.toNatClampNeg) from c1a.1) ?_
              refine lv_bipush (v := 9) hx hb dX8_strain_76 (by decide) ?_
              refine lv_iload_n hx hb dX8_strain_78 rfl (lv_at hl 3 rfl) ?_
              refine fold_i (show b = nI (b.toNatClampNeg) from c2a.1) ?_
              refine lv_iadd hx hb dX8_strain_79 ?_
              refine fold_i (show (9 : Int32) + nI (b.toNatClampNeg) = nI (9 + b.toNatClampNeg) from nI_add (9) (b.toNatClampNeg)) ?_
              refine lv_iload_n hx hb dX8_strain_80 rfl (lv_at hl 4 rfl) ?_
              refine c_v hw (run_V (As := [.int (nI (a.toNatClampNeg)), .int (nI (9 + b.toNatClampNeg)), .int (w)]) (rest := []) (np := 3) hf hw (kn_X8_put l E _  a.toNatClampNeg (9 + b.toNatClampNeg) w  (show a.toNatClampNeg < 6 from c1ab) (show 9 + b.toNatClampNeg < 29 from (by omega))) ⟨gl_V q335 q336 q337 q5 q338, by decide +kernel⟩ ⟨rfl, rfl, Nat.le_of_ble_eq_true rfl, Nat.le_of_ble_eq_true rfl⟩ (by decide) (c_R E _) rfl rfl hl.1 rfl (Nat.le_of_ble_eq_true rfl) dX8_strain_81 ⟨Nat.zero_le _, Nat.zero_le _⟩) (fun H locs hw => ?_)
              refine lv_aload_n hx hb dX8_strain_84 rfl (lv_at hl 1 rfl) ?_
              refine lv_iload hx hb dX8_strain_85 (lv_at hl 0 rfl) ?_
              refine c_i hw (run_V (As := [.int ((μ.1 8 (85 + 29 * a.toNatClampNeg + (9 + b.toNatClampNeg))))]) (rest := []) (np := 1) hf hw (k_X8_acted l E _  (μ.1 8 (85 + 29 * a.toNatClampNeg + (9 + b.toNatClampNeg)))  (s7_ni (x := μ.1 7 0) (s7_pM (by decide) (s7_pC (by decide) (rfl : S7 (μ.1 7 0) μ))) hst)) ⟨gl_V q150 q151 q152 q5 q153, by decide +kernel⟩ ⟨rfl, rfl, Nat.le_of_ble_eq_true rfl, Nat.le_of_ble_eq_true rfl⟩ (by decide) (c_R E _) rfl rfl hl.1 rfl (Nat.le_of_ble_eq_true rfl) dX8_strain_87 ⟨Nat.zero_le _, Nat.zero_le _⟩) (fun H locs hw => ?_)
              exact e_i hf hr hlocks hw rfl ((if_pos c1).trans ((if_pos c2).trans ((if_pos c3).trans ((if_neg c9).trans ((if_neg c10).trans ((if_pos c11).trans rfl)))))) dX8_strain_90
            · replace c11 := (bz_0 _).mp c11
              refine lv_ldc hx hb hf.2.2.2.1 (hf.2.2.2.2 _ q154) dX8_strain_56 ?_
              exact e_i hf hr hlocks hw rfl ((if_pos c1).trans ((if_pos c2).trans ((if_pos c3).trans ((if_neg c9).trans ((if_neg c10).trans ((if_neg c11).trans rfl)))))) dX8_strain_58
          · have c10n : (b.toNatClampNeg) = 1 := by have q := (nI_eq (a := (b.toNatClampNeg)) (b := 1) (by omega) (by omega)); first | exact q.mp c10 | exact fun z => c10 (q.mpr z)
            refine lv_ldc hx hb hf.2.2.2.1 (hf.2.2.2.2 _ q97) dX8_strain_44 ?_
            refine lv_goto (tgt := 50) hx hb dX8_strain_46 (by decide) ?_
            refine c_iR hw (run_S (As := [.int (w), .int (-100000), .int 100000]) (rest := []) (np := 3) hf hw (kn_X8_in l E _  w ((-100000) : Int32) (100000 : Int32)  ) ⟨gl_S q207 q208 q5 q209, by decide +kernel⟩ ⟨rfl, rfl, Nat.le_of_ble_eq_true rfl, Nat.le_of_ble_eq_true rfl⟩ rfl hl.1 rfl (Nat.le_of_ble_eq_true rfl) dX8_strain_50 ⟨Nat.zero_le _, Nat.zero_le _⟩) (fun H locs hw => ?_)
            refine lv_if_ne (tgt := 59) hx hb dX8_strain_53 (by decide) (fun c12 => ?_) (fun c12 => ?_)
            · replace c12 := (bz_n0 _).mp c12
              refine lv_aload_n hx hb dX8_strain_59 rfl (lv_at hl 0 rfl) ?_
              refine c_v hw (run_V (As := []) (rest := []) (np := 0) hf hw (kn_X8_keeps l E _    ) ⟨gl_V q146 q147 q148 q5 q149, by decide +kernel⟩ ⟨rfl, rfl, Nat.le_of_ble_eq_true rfl, Nat.le_of_ble_eq_true rfl⟩ (by decide) (c_R E _) rfl rfl hl.1 rfl (Nat.le_of_ble_eq_true rfl) dX8_strain_60 ⟨Nat.zero_le _, Nat.zero_le _⟩) (fun H locs hw => ?_)
              refine lv_aload_n hx hb dX8_strain_63 rfl (lv_at hl 0 rfl) ?_
              refine lv_iload_n hx hb dX8_strain_64 rfl (lv_at hl 1 rfl) ?_
              refine fold_i (show a = nI (a.toNatClampNeg) from c1a.1) ?_
              refine lv_bipush (v := 9) hx hb dX8_strain_65 (by decide) ?_
              refine lv_iload_n hx hb dX8_strain_67 rfl (lv_at hl 2 rfl) ?_
              refine fold_i (show b = nI (b.toNatClampNeg) from c2a.1) ?_
              refine lv_iadd hx hb dX8_strain_68 ?_
              refine fold_i (show (9 : Int32) + nI (b.toNatClampNeg) = nI (9 + b.toNatClampNeg) from nI_add (9) (b.toNatClampNeg)) ?_
              refine c_iR hw (run_V (As := [.int (nI (a.toNatClampNeg)), .int (nI (9 + b.toNatClampNeg))]) (rest := []) (np := 2) hf hw (kn_X8_of l E _  a.toNatClampNeg (9 + b.toNatClampNeg)  (show a.toNatClampNeg < 6 from c1ab) (show 9 + b.toNatClampNeg < 29 from (by omega))) ⟨gl_V q227 q228 q229 q5 q230, by decide +kernel⟩ ⟨rfl, rfl, Nat.le_of_ble_eq_true rfl, Nat.le_of_ble_eq_true rfl⟩ (by decide) (c_R E _) rfl rfl hl.1 rfl (Nat.le_of_ble_eq_true rfl) dX8_strain_69 ⟨Nat.zero_le _, Nat.zero_le _⟩) (fun H locs hw => ?_)
              refine fold_i (y := (μ.1 8 (85 + 29 * a.toNatClampNeg + (9 + b.toNatClampNeg)))) (by first | rfl | (simp [pM, pJ, upM, upJ, upM_r, tk_M, tk_K, tk_0, tk_1, tk_2, tk_3, tk_4, tk_5, tk_6, tk_7, tk_8, tk_9, tk_10, tk_o, ms_0_0, ms_0_1, ms_0_2, ms_0_3, ms_0_4, ms_0_5, ms_0_6, ms_0_7, ms_0_8, ms_0_9, ms_0_10, ms_1_0, ms_1_1, ms_1_2, ms_1_3, ms_1_4, ms_1_5, ms_1_6, ms_1_7, ms_1_8, ms_1_9, ms_1_10, ms_w, ms_r, ms_d, ms_M, ms_6, ms_K, pC_row]; done) | (simp (disch := (first | omega | (simp only [tN, tD, tR, sF]; omega))) only [pM, pJ, upM_s, upM_k, upM_c, upJ_s, upJ_k, upJ_c, tk_M, tk_K, tk_0, tk_1, tk_2, tk_3, tk_4, tk_5, tk_6, tk_7, tk_8, tk_9, tk_10, tk_o, ms_0_0, ms_0_1, ms_0_2, ms_0_3, ms_0_4, ms_0_5, ms_0_6, ms_0_7, ms_0_8, ms_0_9, ms_0_10, ms_1_0, ms_1_1, ms_1_2, ms_1_3, ms_1_4, ms_1_5, ms_1_6, ms_1_7, ms_1_8, ms_1_9, ms_1_10, ms_w, ms_r, ms_d, ms_M, ms_6, ms_K, pC_row]; done) | rfl) ?_
              refine lv_istore (lv' := [(4, .int ((μ.1 8 (85 + 29 * a.toNatClampNeg + (9 + b.toNatClampNeg))))), (0, .ref (E.1 (232))), (1, .int (a)), (2, .int (b)), (3, .int (w))]) hx hb dX8_strain_72 hl (by decide) rfl (fun ls hl => ?_)
              refine lv_aload_n hx hb dX8_strain_74 rfl (lv_at hl 1 rfl) ?_
              refine lv_iload_n hx hb dX8_strain_75 rfl (lv_at hl 2 rfl) ?_
              refine fold_i (show a = nI (a.toNatClampNeg) from c1a.1) ?_
              refine lv_bipush (v := 9) hx hb dX8_strain_76 (by decide) ?_
              refine lv_iload_n hx hb dX8_strain_78 rfl (lv_at hl 3 rfl) ?_
              refine fold_i (show b = nI (b.toNatClampNeg) from c2a.1) ?_
              refine lv_iadd hx hb dX8_strain_79 ?_
              refine fold_i (show (9 : Int32) + nI (b.toNatClampNeg) = nI (9 + b.toNatClampNeg) from nI_add (9) (b.toNatClampNeg)) ?_
              refine lv_iload_n hx hb dX8_strain_80 rfl (lv_at hl 4 rfl) ?_
              refine c_v hw (run_V (As := [.int (nI (a.toNatClampNeg)), .int (nI (9 + b.toNatClampNeg)), .int (w)]) (rest := []) (np := 3) hf hw (kn_X8_put l E _  a.toNatClampNeg (9 + b.toNatClampNeg) w  (show a.toNatClampNeg < 6 from c1ab) (show 9 + b.toNatClampNeg < 29 from (by omega))) ⟨gl_V q335 q336 q337 q5 q338, by decide +kernel⟩ ⟨rfl, rfl, Nat.le_of_ble_eq_true rfl, Nat.le_of_ble_eq_true rfl⟩ (by decide) (c_R E _) rfl rfl hl.1 rfl (Nat.le_of_ble_eq_true rfl) dX8_strain_81 ⟨Nat.zero_le _, Nat.zero_le _⟩) (fun H locs hw => ?_)
              refine lv_aload_n hx hb dX8_strain_84 rfl (lv_at hl 1 rfl) ?_
              refine lv_iload hx hb dX8_strain_85 (lv_at hl 0 rfl) ?_
              refine c_i hw (run_V (As := [.int ((μ.1 8 (85 + 29 * a.toNatClampNeg + (9 + b.toNatClampNeg))))]) (rest := []) (np := 1) hf hw (k_X8_acted l E _  (μ.1 8 (85 + 29 * a.toNatClampNeg + (9 + b.toNatClampNeg)))  (s7_ni (x := μ.1 7 0) (s7_pM (by decide) (s7_pC (by decide) (rfl : S7 (μ.1 7 0) μ))) hst)) ⟨gl_V q150 q151 q152 q5 q153, by decide +kernel⟩ ⟨rfl, rfl, Nat.le_of_ble_eq_true rfl, Nat.le_of_ble_eq_true rfl⟩ (by decide) (c_R E _) rfl rfl hl.1 rfl (Nat.le_of_ble_eq_true rfl) dX8_strain_87 ⟨Nat.zero_le _, Nat.zero_le _⟩) (fun H locs hw => ?_)
              exact e_i hf hr hlocks hw rfl ((if_pos c1).trans ((if_pos c2).trans ((if_pos c3).trans ((if_neg c9).trans ((if_pos c10).trans ((if_pos c12).trans rfl)))))) dX8_strain_90
            · replace c12 := (bz_0 _).mp c12
              refine lv_ldc hx hb hf.2.2.2.1 (hf.2.2.2.2 _ q154) dX8_strain_56 ?_
              exact e_i hf hr hlocks hw rfl ((if_pos c1).trans ((if_pos c2).trans ((if_pos c3).trans ((if_neg c9).trans ((if_pos c10).trans ((if_neg c12).trans rfl)))))) dX8_strain_58
        · have c9n : (b.toNatClampNeg) = 0 := by have q := (nI_eq (a := (b.toNatClampNeg)) (b := 0) (by omega) (by omega)); first | exact q.mp c9 | exact fun z => c9 (q.mpr z)
          refine lv_sipush (v := 5000) hx hb dX8_strain_33 (by decide) ?_
          refine lv_goto (tgt := 50) hx hb dX8_strain_36 (by decide) ?_
          refine c_iR hw (run_S (As := [.int (w), .int (-100000), .int 5000]) (rest := []) (np := 3) hf hw (kn_X8_in l E _  w ((-100000) : Int32) (5000 : Int32)  ) ⟨gl_S q207 q208 q5 q209, by decide +kernel⟩ ⟨rfl, rfl, Nat.le_of_ble_eq_true rfl, Nat.le_of_ble_eq_true rfl⟩ rfl hl.1 rfl (Nat.le_of_ble_eq_true rfl) dX8_strain_50 ⟨Nat.zero_le _, Nat.zero_le _⟩) (fun H locs hw => ?_)
          refine lv_if_ne (tgt := 59) hx hb dX8_strain_53 (by decide) (fun c13 => ?_) (fun c13 => ?_)
          · replace c13 := (bz_n0 _).mp c13
            refine lv_aload_n hx hb dX8_strain_59 rfl (lv_at hl 0 rfl) ?_
            refine c_v hw (run_V (As := []) (rest := []) (np := 0) hf hw (kn_X8_keeps l E _    ) ⟨gl_V q146 q147 q148 q5 q149, by decide +kernel⟩ ⟨rfl, rfl, Nat.le_of_ble_eq_true rfl, Nat.le_of_ble_eq_true rfl⟩ (by decide) (c_R E _) rfl rfl hl.1 rfl (Nat.le_of_ble_eq_true rfl) dX8_strain_60 ⟨Nat.zero_le _, Nat.zero_le _⟩) (fun H locs hw => ?_)
            refine lv_aload_n hx hb dX8_strain_63 rfl (lv_at hl 0 rfl) ?_
            refine lv_iload_n hx hb dX8_strain_64 rfl (lv_at hl 1 rfl) ?_
            refine fold_i (show a = nI (a.toNatClampNeg) from c1a.1) ?_
            refine lv_bipush (v := 9) hx hb dX8_strain_65 (by decide) ?_
            refine lv_iload_n hx hb dX8_strain_67 rfl (lv_at hl 2 rfl) ?_
            refine fold_i (show b = nI (b.toNatClampNeg) from c2a.1) ?_
            refine lv_iadd hx hb dX8_strain_68 ?_
            refine fold_i (show (9 : Int32) + nI (b.toNatClampNeg) = nI (9 + b.toNatClampNeg) from nI_add (9) (b.toNatClampNeg)) ?_
            refine c_iR hw (run_V (As := [.int (nI (a.toNatClampNeg)), .int (nI (9 + b.toNatClampNeg))]) (rest := []) (np := 2) hf hw (kn_X8_of l E _  a.toNatClampNeg (9 + b.toNatClampNeg)  (show a.toNatClampNeg < 6 from c1ab) (show 9 + b.toNatClampNeg < 29 from (by omega))) ⟨gl_V q227 q228 q229 q5 q230, by decide +kernel⟩ ⟨rfl, rfl, Nat.le_of_ble_eq_true rfl, Nat.le_of_ble_eq_true rfl⟩ (by decide) (c_R E _) rfl rfl hl.1 rfl (Nat.le_of_ble_eq_true rfl) dX8_strain_69 ⟨Nat.zero_le _, Nat.zero_le _⟩) (fun H locs hw => ?_)
            refine fold_i (y := (μ.1 8 (85 + 29 * a.toNatClampNeg + (9 + b.toNatClampNeg)))) (by first | rfl | (simp [pM, pJ, upM, upJ, upM_r, tk_M, tk_K, tk_0, tk_1, tk_2, tk_3, tk_4, tk_5, tk_6, tk_7, tk_8, tk_9, tk_10, tk_o, ms_0_0, ms_0_1, ms_0_2, ms_0_3, ms_0_4, ms_0_5, ms_0_6, ms_0_7, ms_0_8, ms_0_9, ms_0_10, ms_1_0, ms_1_1, ms_1_2, ms_1_3, ms_1_4, ms_1_5, ms_1_6, ms_1_7, ms_1_8, ms_1_9, ms_1_10, ms_w, ms_r, ms_d, ms_M, ms_6, ms_K, pC_row]; done) | (simp (disch := (first | omega | (simp only [tN, tD, tR, sF]; omega))) only [pM, pJ, upM_s, upM_k, upM_c, upJ_s, upJ_k, upJ_c, tk_M, tk_K, tk_0, tk_1, tk_2, tk_3, tk_4, tk_5, tk_6, tk_7, tk_8, tk_9, tk_10, tk_o, ms_0_0, ms_0_1, ms_0_2, ms_0_3, ms_0_4, ms_0_5, ms_0_6, ms_0_7, ms_0_8, ms_0_9, ms_0_10, ms_1_0, ms_1_1, ms_1_2, ms_1_3, ms_1_4, ms_1_5, ms_1_6, ms_1_7, ms_1_8, ms_1_9, ms_1_10, ms_w, ms_r, ms_d, ms_M, ms_6, ms_K, pC_row]; done) | rfl) ?_
            refine lv_istore (lv' := [(4, .int ((μ.1 8 (85 + 29 * a.toNatClampNeg + (9 + b.toNatClampNeg))))), (0, .ref (E.1 (232))), (1, .int (a)), (2, .int (b)), (3, .int (w))]) hx hb dX8_strain_72 hl (by decide) rfl (fun ls hl => ?_)
            refine lv_aload_n hx hb dX8_strain_74 rfl (lv_at hl 1 rfl) ?_
            refine lv_iload_n hx hb dX8_strain_75 rfl (lv_at hl 2 rfl) ?_
            refine fold_i (show a = nI (a.toNatClampNeg) from c1a.1) ?_
            refine lv_bipush (v := 9) hx hb dX8_strain_76 (by decide) ?_
            refine lv_iload_n hx hb dX8_strain_78 rfl (lv_at hl 3 rfl) ?_
            refine fold_i (show b = nI (b.toNatClampNeg) from c2a.1) ?_
            refine lv_iadd hx hb dX8_strain_79 ?_
            refine fold_i (show (9 : Int32) + nI (b.toNatClampNeg) = nI (9 + b.toNatClampNeg) from nI_add (9) (b.toNatClampNeg)) ?_
            refine lv_iload_n hx hb dX8_strain_80 rfl (lv_at hl 4 rfl) ?_
            refine c_v hw (run_V (As := [.int (nI (a.toNatClampNeg)), .int (nI (9 + b.toNatClampNeg)), .int (w)]) (rest := []) (np := 3) hf hw (kn_X8_put l E _  a.toNatClampNeg (9 + b.toNatClampNeg) w  (show a.toNatClampNeg < 6 from c1ab) (show 9 + b.toNatClampNeg < 29 from (by omega))) ⟨gl_V q335 q336 q337 q5 q338, by decide +kernel⟩ ⟨rfl, rfl, Nat.le_of_ble_eq_true rfl, Nat.le_of_ble_eq_true rfl⟩ (by decide) (c_R E _) rfl rfl hl.1 rfl (Nat.le_of_ble_eq_true rfl) dX8_strain_81 ⟨Nat.zero_le _, Nat.zero_le _⟩) (fun H locs hw => ?_)
            refine lv_aload_n hx hb dX8_strain_84 rfl (lv_at hl 1 rfl) ?_
            refine lv_iload hx hb dX8_strain_85 (lv_at hl 0 rfl) ?_
            refine c_i hw (run_V (As := [.int ((μ.1 8 (85 + 29 * a.toNatClampNeg + (9 + b.toNatClampNeg))))]) (rest := []) (np := 1) hf hw (k_X8_acted l E _  (μ.1 8 (85 + 29 * a.toNatClampNeg + (9 + b.toNatClampNeg)))  (s7_ni (x := μ.1 7 0) (s7_pM (by decide) (s7_pC (by decide) (rfl : S7 (μ.1 7 0) μ))) hst)) ⟨gl_V q150 q151 q152 q5 q153, by decide +kernel⟩ ⟨rfl, rfl, Nat.le_of_ble_eq_true rfl, Nat.le_of_ble_eq_true rfl⟩ (by decide) (c_R E _) rfl rfl hl.1 rfl (Nat.le_of_ble_eq_true rfl) dX8_strain_87 ⟨Nat.zero_le _, Nat.zero_le _⟩) (fun H locs hw => ?_)
            exact e_i hf hr hlocks hw rfl ((if_pos c1).trans ((if_pos c2).trans ((if_pos c3).trans ((if_pos c9).trans ((if_pos c13).trans rfl))))) dX8_strain_90
          · replace c13 := (bz_0 _).mp c13
            refine lv_ldc hx hb hf.2.2.2.1 (hf.2.2.2.2 _ q154) dX8_strain_56 ?_
            exact e_i hf hr hlocks hw rfl ((if_pos c1).trans ((if_pos c2).trans ((if_pos c3).trans ((if_pos c9).trans ((if_neg c13).trans rfl))))) dX8_strain_58
def sp_X8_limits (μ : Mu)  (a : Int32) (b : Int32) (d : Int32) (e2 : Int32) : Int32 × Mu :=
  if 0 ≤ a ∧ a ≤ (μ.1 8 1) - 1 then
    if (-200000) ≤ b ∧ b ≤ 850000 then
      if b ≤ d ∧ d ≤ (850000 : Int32) then
        if (0 : Int32) ≤ e2 ∧ e2 ≤ (100000 : Int32) then
          ((sp_X8_acted (pM (pM (pM (pM (pC μ 11 0 8 0 259) 8 (85 + 29 * a.toNatClampNeg + 14) b) 8 (85 + 29 * a.toNatClampNeg + 15) d) 8 (85 + 29 * a.toNatClampNeg + 16) (nI (e2.toNatClampNeg))) 8 (85 + 29 * a.toNatClampNeg + 17) (0 : Int32))  (μ.1 8 (85 + 29 * a.toNatClampNeg + 17))).1, (sp_X8_acted (pM (pM (pM (pM (pC μ 11 0 8 0 259) 8 (85 + 29 * a.toNatClampNeg + 14) b) 8 (85 + 29 * a.toNatClampNeg + 15) d) 8 (85 + 29 * a.toNatClampNeg + 16) (nI (e2.toNatClampNeg))) 8 (85 + 29 * a.toNatClampNeg + 17) (0 : Int32))  (μ.1 8 (85 + 29 * a.toNatClampNeg + 17))).2)
        else
          ((-2000000001), μ)
      else
        ((-2000000001), μ)
    else
      ((-2000000001), μ)
  else
    ((-2000000001), μ)
set_option maxHeartbeats 4000000 in
set_option maxRecDepth 100000 in
theorem k_X8_limits (l : Launch) (E : En) (μ : Mu)  (a : Int32) (b : Int32) (d : Int32) (e2 : Int32) (hI : RI (μ.1 8)) (hst : ni 5 (μ.1 7 0)) : MtI l yX8_limits cX8_limits 6 .int ({ frames := 2, cells := 0, slots := 0, locals := 43 }) [.ref (E.1 (232)), .int (a), .int (b), .int (d), .int (e2)] E μ (sp_X8_limits μ a b d e2) := by
  refine mt_of (by decide +kernel) (Nat.le_of_ble_eq_true rfl) ?_
  intro p e s m args below meth c ls hf hr hlocks hl hw
  have hx := hf.1
  have hb := hf.2.1
  have hl : lv_has ls 6 [(0, .ref (E.1 (232))), (1, .int (a)), (2, .int (b)), (3, .int (d)), (4, .int (e2))] := hl
  refine lv_aload_n hx hb dX8_limits_0 rfl (lv_at hl 0 rfl) ?_
  refine lv_iload_n hx hb dX8_limits_1 rfl (lv_at hl 1 rfl) ?_
  refine c_iR hw (run_V (As := [.int (a)]) (rest := []) (np := 1) hf hw (kn_X8_isSensor l E _  a  ) ⟨gl_V q370 q371 q372 q5 q373, by decide +kernel⟩ ⟨rfl, rfl, Nat.le_of_ble_eq_true rfl, Nat.le_of_ble_eq_true rfl⟩ (by decide) (c_R E _) rfl rfl hl.1 rfl (Nat.le_of_ble_eq_true rfl) dX8_limits_2 ⟨Nat.zero_le _, Nat.zero_le _⟩) (fun H locs hw => ?_)
  refine lv_if_eq (tgt := 36) hx hb dX8_limits_5 (by decide) (fun c1 => ?_) (fun c1 => ?_)
  · replace c1 := (bz_0 _).mp c1
    refine lv_ldc hx hb hf.2.2.2.1 (hf.2.2.2.2 _ q154) dX8_limits_36 ?_
    exact e_i hf hr hlocks hw rfl ((if_neg c1).trans rfl) dX8_limits_38
  · replace c1 := (bz_n0 _).mp c1
    have c1a := (ni_of hI.2.1 (by decide) c1)
    have c1ab : a.toNatClampNeg < 6 := Nat.lt_of_lt_of_le c1a.2 (Nat.le_of_lt_succ hI.2.1.2)
    refine lv_iload_n hx hb dX8_limits_8 rfl (lv_at hl 2 rfl) ?_
    refine c_iR hw (run_S (As := [.int (b)]) (rest := []) (np := 1) hf hw (kn_X8_isDegree l E _  b  ) ⟨gl_S q210 q211 q5 q212, by decide +kernel⟩ ⟨rfl, rfl, Nat.le_of_ble_eq_true rfl, Nat.le_of_ble_eq_true rfl⟩ rfl hl.1 rfl (Nat.le_of_ble_eq_true rfl) dX8_limits_9 ⟨Nat.zero_le _, Nat.zero_le _⟩) (fun H locs hw => ?_)
    refine lv_if_eq (tgt := 36) hx hb dX8_limits_12 (by decide) (fun c2 => ?_) (fun c2 => ?_)
    · replace c2 := (bz_0 _).mp c2
      refine lv_ldc hx hb hf.2.2.2.1 (hf.2.2.2.2 _ q154) dX8_limits_36 ?_
      exact e_i hf hr hlocks hw rfl ((if_pos c1).trans ((if_neg c2).trans rfl)) dX8_limits_38
    · replace c2 := (bz_n0 _).mp c2
      refine lv_iload_n hx hb dX8_limits_15 rfl (lv_at hl 3 rfl) ?_
      refine lv_iload_n hx hb dX8_limits_16 rfl (lv_at hl 2 rfl) ?_
      refine lv_ldc hx hb hf.2.2.2.1 (hf.2.2.2.2 _ q214) dX8_limits_17 ?_
      refine c_iR hw (run_S (As := [.int (d), .int (b), .int 850000]) (rest := []) (np := 3) hf hw (kn_X8_in l E _  d b (850000 : Int32)  ) ⟨gl_S q207 q208 q5 q209, by decide +kernel⟩ ⟨rfl, rfl, Nat.le_of_ble_eq_true rfl, Nat.le_of_ble_eq_true rfl⟩ rfl hl.1 rfl (Nat.le_of_ble_eq_true rfl) dX8_limits_19 ⟨Nat.zero_le _, Nat.zero_le _⟩) (fun H locs hw => ?_)
      refine lv_if_eq (tgt := 36) hx hb dX8_limits_22 (by decide) (fun c3 => ?_) (fun c3 => ?_)
      · replace c3 := (bz_0 _).mp c3
        refine lv_ldc hx hb hf.2.2.2.1 (hf.2.2.2.2 _ q154) dX8_limits_36 ?_
        exact e_i hf hr hlocks hw rfl ((if_pos c1).trans ((if_pos c2).trans ((if_neg c3).trans rfl))) dX8_limits_38
      · replace c3 := (bz_n0 _).mp c3
        refine lv_iload hx hb dX8_limits_25 (lv_at hl 4 rfl) ?_
        refine lv_iconst (v := 0) hx hb dX8_limits_27 (by decide) ?_
        refine lv_ldc hx hb hf.2.2.2.1 (hf.2.2.2.2 _ q97) dX8_limits_28 ?_
        refine c_iR hw (run_S (As := [.int (e2), .int 0, .int 100000]) (rest := []) (np := 3) hf hw (kn_X8_in l E _  e2 (0 : Int32) (100000 : Int32)  ) ⟨gl_S q207 q208 q5 q209, by decide +kernel⟩ ⟨rfl, rfl, Nat.le_of_ble_eq_true rfl, Nat.le_of_ble_eq_true rfl⟩ rfl hl.1 rfl (Nat.le_of_ble_eq_true rfl) dX8_limits_30 ⟨Nat.zero_le _, Nat.zero_le _⟩) (fun H locs hw => ?_)
        refine lv_if_ne (tgt := 39) hx hb dX8_limits_33 (by decide) (fun c4 => ?_) (fun c4 => ?_)
        · replace c4 := (bz_n0 _).mp c4
          have c4a := (na_lit 100000 rfl (by decide) c4)
          have c4ab : e2.toNatClampNeg < 100001 := c4a.2
          refine lv_aload_n hx hb dX8_limits_39 rfl (lv_at hl 0 rfl) ?_
          refine c_v hw (run_V (As := []) (rest := []) (np := 0) hf hw (kn_X8_keeps l E _    ) ⟨gl_V q146 q147 q148 q5 q149, by decide +kernel⟩ ⟨rfl, rfl, Nat.le_of_ble_eq_true rfl, Nat.le_of_ble_eq_true rfl⟩ (by decide) (c_R E _) rfl rfl hl.1 rfl (Nat.le_of_ble_eq_true rfl) dX8_limits_40 ⟨Nat.zero_le _, Nat.zero_le _⟩) (fun H locs hw => ?_)
          refine lv_aload_n hx hb dX8_limits_43 rfl (lv_at hl 0 rfl) ?_
          refine lv_iload_n hx hb dX8_limits_44 rfl (lv_at hl 1 rfl) ?_
          refine fold_i (show a = nI (a.toNatClampNeg) from c1a.1) ?_
          refine lv_bipush (v := 17) hx hb dX8_limits_45 (by decide) ?_
          refine c_iR hw (run_V (As := [.int (nI (a.toNatClampNeg)), .int 17]) (rest := []) (np := 2) hf hw (kn_X8_of l E _  a.toNatClampNeg 17  (show a.toNatClampNeg < 6 from c1ab) (show 17 < 29 from (by decide))) ⟨gl_V q227 q228 q229 q5 q230, by decide +kernel⟩ ⟨rfl, rfl, Nat.le_of_ble_eq_true rfl, Nat.le_of_ble_eq_true rfl⟩ (by decide) (c_R E _) rfl rfl hl.1 rfl (Nat.le_of_ble_eq_true rfl) dX8_limits_47 ⟨Nat.zero_le _, Nat.zero_le _⟩) (fun H locs hw => ?_)
          refine fold_i (y := (μ.1 8 (85 + 29 * a.toNatClampNeg + 17))) (by first | rfl | (simp [pM, pJ, upM, upJ, upM_r, tk_M, tk_K, tk_0, tk_1, tk_2, tk_3, tk_4, tk_5, tk_6, tk_7, tk_8, tk_9, tk_10, tk_o, ms_0_0, ms_0_1, ms_0_2, ms_0_3, ms_0_4, ms_0_5, ms_0_6, ms_0_7, ms_0_8, ms_0_9, ms_0_10, ms_1_0, ms_1_1, ms_1_2, ms_1_3, ms_1_4, ms_1_5, ms_1_6, ms_1_7, ms_1_8, ms_1_9, ms_1_10, ms_w, ms_r, ms_d, ms_M, ms_6, ms_K, pC_row]; done) | (simp (disch := (first | omega | (simp only [tN, tD, tR, sF]; omega))) only [pM, pJ, upM_s, upM_k, upM_c, upJ_s, upJ_k, upJ_c, tk_M, tk_K, tk_0, tk_1, tk_2, tk_3, tk_4, tk_5, tk_6, tk_7, tk_8, tk_9, tk_10, tk_o, ms_0_0, ms_0_1, ms_0_2, ms_0_3, ms_0_4, ms_0_5, ms_0_6, ms_0_7, ms_0_8, ms_0_9, ms_0_10, ms_1_0, ms_1_1, ms_1_2, ms_1_3, ms_1_4, ms_1_5, ms_1_6, ms_1_7, ms_1_8, ms_1_9, ms_1_10, ms_w, ms_r, ms_d, ms_M, ms_6, ms_K, pC_row]; done) | rfl) ?_
          refine lv_istore (lv' := [(5, .int ((μ.1 8 (85 + 29 * a.toNatClampNeg + 17)))), (0, .ref (E.1 (232))), (1, .int (a)), (2, .int (b)), (3, .int (d)), (4, .int (e2))]) hx hb dX8_limits_50 hl (by decide) rfl (fun ls hl => ?_)
          refine lv_aload_n hx hb dX8_limits_52 rfl (lv_at hl 1 rfl) ?_
          refine lv_iload_n hx hb dX8_limits_53 rfl (lv_at hl 2 rfl) ?_
          refine fold_i (show a = nI (a.toNatClampNeg) from c1a.1) ?_
          refine lv_bipush (v := 14) hx hb dX8_limits_54 (by decide) ?_
          refine lv_iload_n hx hb dX8_limits_56 rfl (lv_at hl 3 rfl) ?_
          refine c_v hw (run_V (As := [.int (nI (a.toNatClampNeg)), .int 14, .int (b)]) (rest := []) (np := 3) hf hw (kn_X8_put l E _  a.toNatClampNeg 14 b  (show a.toNatClampNeg < 6 from c1ab) (show 14 < 29 from (by decide))) ⟨gl_V q335 q336 q337 q5 q338, by decide +kernel⟩ ⟨rfl, rfl, Nat.le_of_ble_eq_true rfl, Nat.le_of_ble_eq_true rfl⟩ (by decide) (c_R E _) rfl rfl hl.1 rfl (Nat.le_of_ble_eq_true rfl) dX8_limits_57 ⟨Nat.zero_le _, Nat.zero_le _⟩) (fun H locs hw => ?_)
          refine lv_aload_n hx hb dX8_limits_60 rfl (lv_at hl 1 rfl) ?_
          refine lv_iload_n hx hb dX8_limits_61 rfl (lv_at hl 2 rfl) ?_
          refine fold_i (show a = nI (a.toNatClampNeg) from c1a.1) ?_
          refine lv_bipush (v := 15) hx hb dX8_limits_62 (by decide) ?_
          refine lv_iload_n hx hb dX8_limits_64 rfl (lv_at hl 4 rfl) ?_
          refine c_v hw (run_V (As := [.int (nI (a.toNatClampNeg)), .int 15, .int (d)]) (rest := []) (np := 3) hf hw (kn_X8_put l E _  a.toNatClampNeg 15 d  (show a.toNatClampNeg < 6 from c1ab) (show 15 < 29 from (by decide))) ⟨gl_V q335 q336 q337 q5 q338, by decide +kernel⟩ ⟨rfl, rfl, Nat.le_of_ble_eq_true rfl, Nat.le_of_ble_eq_true rfl⟩ (by decide) (c_R E _) rfl rfl hl.1 rfl (Nat.le_of_ble_eq_true rfl) dX8_limits_65 ⟨Nat.zero_le _, Nat.zero_le _⟩) (fun H locs hw => ?_)
          refine lv_aload_n hx hb dX8_limits_68 rfl (lv_at hl 1 rfl) ?_
          refine lv_iload_n hx hb dX8_limits_69 rfl (lv_at hl 2 rfl) ?_
          refine fold_i (show a = nI (a.toNatClampNeg) from c1a.1) ?_
          refine lv_bipush (v := 16) hx hb dX8_limits_70 (by decide) ?_
          refine lv_iload hx hb dX8_limits_72 (lv_at hl 5 rfl) ?_
          refine fold_i (show e2 = nI (e2.toNatClampNeg) from c4a.1) ?_
          refine c_v hw (run_V (As := [.int (nI (a.toNatClampNeg)), .int 16, .int (nI (e2.toNatClampNeg))]) (rest := []) (np := 3) hf hw (kn_X8_put l E _  a.toNatClampNeg 16 (nI (e2.toNatClampNeg))  (show a.toNatClampNeg < 6 from c1ab) (show 16 < 29 from (by decide))) ⟨gl_V q335 q336 q337 q5 q338, by decide +kernel⟩ ⟨rfl, rfl, Nat.le_of_ble_eq_true rfl, Nat.le_of_ble_eq_true rfl⟩ (by decide) (c_R E _) rfl rfl hl.1 rfl (Nat.le_of_ble_eq_true rfl) dX8_limits_74 ⟨Nat.zero_le _, Nat.zero_le _⟩) (fun H locs hw => ?_)
          refine lv_aload_n hx hb dX8_limits_77 rfl (lv_at hl 1 rfl) ?_
          refine lv_iload_n hx hb dX8_limits_78 rfl (lv_at hl 2 rfl) ?_
          refine fold_i (show a = nI (a.toNatClampNeg) from c1a.1) ?_
          refine lv_bipush (v := 17) hx hb dX8_limits_79 (by decide) ?_
          refine lv_iconst (v := 0) hx hb dX8_limits_81 (by decide) ?_
          refine c_v hw (run_V (As := [.int (nI (a.toNatClampNeg)), .int 17, .int 0]) (rest := []) (np := 3) hf hw (kn_X8_put l E _  a.toNatClampNeg 17 (0 : Int32)  (show a.toNatClampNeg < 6 from c1ab) (show 17 < 29 from (by decide))) ⟨gl_V q335 q336 q337 q5 q338, by decide +kernel⟩ ⟨rfl, rfl, Nat.le_of_ble_eq_true rfl, Nat.le_of_ble_eq_true rfl⟩ (by decide) (c_R E _) rfl rfl hl.1 rfl (Nat.le_of_ble_eq_true rfl) dX8_limits_82 ⟨Nat.zero_le _, Nat.zero_le _⟩) (fun H locs hw => ?_)
          refine lv_aload_n hx hb dX8_limits_85 rfl (lv_at hl 1 rfl) ?_
          refine lv_iload hx hb dX8_limits_86 (lv_at hl 0 rfl) ?_
          refine c_i hw (run_V (As := [.int ((μ.1 8 (85 + 29 * a.toNatClampNeg + 17)))]) (rest := []) (np := 1) hf hw (k_X8_acted l E _  (μ.1 8 (85 + 29 * a.toNatClampNeg + 17))  (s7_ni (x := μ.1 7 0) (s7_pM (by decide) (s7_pM (by decide) (s7_pM (by decide) (s7_pM (by decide) (s7_pC (by decide) (rfl : S7 (μ.1 7 0) μ)))))) hst)) ⟨gl_V q150 q151 q152 q5 q153, by decide +kernel⟩ ⟨rfl, rfl, Nat.le_of_ble_eq_true rfl, Nat.le_of_ble_eq_true rfl⟩ (by decide) (c_R E _) rfl rfl hl.1 rfl (Nat.le_of_ble_eq_true rfl) dX8_limits_88 ⟨Nat.zero_le _, Nat.zero_le _⟩) (fun H locs hw => ?_)
          exact e_i hf hr hlocks hw rfl ((if_pos c1).trans ((if_pos c2).trans ((if_pos c3).trans ((if_pos c4).trans rfl)))) dX8_limits_91
        · replace c4 := (bz_0 _).mp c4
          refine lv_ldc hx hb hf.2.2.2.1 (hf.2.2.2.2 _ q154) dX8_limits_36 ?_
          exact e_i hf hr hlocks hw rfl ((if_pos c1).trans ((if_pos c2).trans ((if_pos c3).trans ((if_neg c4).trans rfl)))) dX8_limits_38
def sp_X8_bits   (w : Int32) : Int32 :=
  (((w &&& (1 : Int32)) + ((w >>> ((1 : Int32) &&& 31)) &&& (1 : Int32))) + ((w >>> ((2 : Int32) &&& 31)) &&& (1 : Int32))) + ((w >>> ((3 : Int32) &&& 31)) &&& (1 : Int32))
set_option maxHeartbeats 4000000 in
set_option maxRecDepth 100000 in
theorem k_X8_bits (l : Launch) (E : En) (μ : Mu)  (w : Int32)  : MtI l yX8_bits cX8_bits 1 .int ({ frames := 0, cells := 0, slots := 0, locals := 0 }) [.int (w)] E μ ((sp_X8_bits  w), μ) := by
  refine mt_of (by decide +kernel) (Nat.le_of_ble_eq_true rfl) ?_
  intro p e s m args below meth c ls hf hr hlocks hl hw
  have hx := hf.1
  have hb := hf.2.1
  have hl : lv_has ls 1 [(0, .int (w))] := hl
  refine lv_iload_n hx hb dX8_bits_0 rfl (lv_at hl 0 rfl) ?_
  refine lv_iconst (v := 1) hx hb dX8_bits_1 (by decide) ?_
  refine lv_iand hx hb dX8_bits_2 ?_
  refine lv_iload_n hx hb dX8_bits_3 rfl (lv_at hl 0 rfl) ?_
  refine lv_iconst (v := 1) hx hb dX8_bits_4 (by decide) ?_
  refine lv_ishr hx hb dX8_bits_5 ?_
  refine lv_iconst (v := 1) hx hb dX8_bits_6 (by decide) ?_
  refine lv_iand hx hb dX8_bits_7 ?_
  refine lv_iadd hx hb dX8_bits_8 ?_
  refine lv_iload_n hx hb dX8_bits_9 rfl (lv_at hl 0 rfl) ?_
  refine lv_iconst (v := 2) hx hb dX8_bits_10 (by decide) ?_
  refine lv_ishr hx hb dX8_bits_11 ?_
  refine lv_iconst (v := 1) hx hb dX8_bits_12 (by decide) ?_
  refine lv_iand hx hb dX8_bits_13 ?_
  refine lv_iadd hx hb dX8_bits_14 ?_
  refine lv_iload_n hx hb dX8_bits_15 rfl (lv_at hl 0 rfl) ?_
  refine lv_iconst (v := 3) hx hb dX8_bits_16 (by decide) ?_
  refine lv_ishr hx hb dX8_bits_17 ?_
  refine lv_iconst (v := 1) hx hb dX8_bits_18 (by decide) ?_
  refine lv_iand hx hb dX8_bits_19 ?_
  refine lv_iadd hx hb dX8_bits_20 ?_
  exact e_i hf hr hlocks hw rfl (congrArg (fun z => (z, μ)) rfl) dX8_bits_21
def sp_X8_least   (w : Int32) : Int32 :=
  if (w : Int32) = 0 then
    10000
  else
    if (w : Int32) = 1 then
      100
    else
      if (w : Int32) = 2 then
        100
      else
        if (w : Int32) = 3 then
          8
        else
          if (w : Int32) = 6 then
            1
          else
            0
set_option maxHeartbeats 4000000 in
set_option maxRecDepth 100000 in
theorem k_X8_least (l : Launch) (E : En) (μ : Mu)  (w : Int32)  : MtI l yX8_least cX8_least 1 .int ({ frames := 0, cells := 0, slots := 0, locals := 0 }) [.int (w)] E μ ((sp_X8_least  w), μ) := by
  refine mt_of (by decide +kernel) (Nat.le_of_ble_eq_true rfl) ?_
  intro p e s m args below meth c ls hf hr hlocks hl hw
  have hx := hf.1
  have hb := hf.2.1
  have hl : lv_has ls 1 [(0, .int (w))] := hl
  refine lv_iload_n hx hb dX8_least_0 rfl (lv_at hl 0 rfl) ?_
  refine lv_if_ne (tgt := 10) hx hb dX8_least_1 (by decide) (fun c1 => ?_) (fun c1 => ?_)
  · refine lv_iload_n hx hb dX8_least_10 rfl (lv_at hl 0 rfl) ?_
    refine lv_iconst (v := 1) hx hb dX8_least_11 (by decide) ?_
    refine lv_icmp_eq (tgt := 20) hx hb dX8_least_12 (by decide) (fun c2 => ?_) (fun c2 => ?_)
    · refine lv_bipush (v := 100) hx hb dX8_least_20 (by decide) ?_
      refine lv_goto (tgt := 46) hx hb dX8_least_22 (by decide) ?_
      exact e_i hf hr hlocks hw rfl (congrArg (fun z => (z, μ)) ((if_neg c1).trans ((if_pos c2).trans rfl))) dX8_least_46
    · refine lv_iload_n hx hb dX8_least_15 rfl (lv_at hl 0 rfl) ?_
      refine lv_iconst (v := 2) hx hb dX8_least_16 (by decide) ?_
      refine lv_icmp_ne (tgt := 25) hx hb dX8_least_17 (by decide) (fun c3 => ?_) (fun c3 => ?_)
      · refine lv_iload_n hx hb dX8_least_25 rfl (lv_at hl 0 rfl) ?_
        refine lv_iconst (v := 3) hx hb dX8_least_26 (by decide) ?_
        refine lv_icmp_ne (tgt := 35) hx hb dX8_least_27 (by decide) (fun c4 => ?_) (fun c4 => ?_)
        · refine lv_iload_n hx hb dX8_least_35 rfl (lv_at hl 0 rfl) ?_
          refine lv_bipush (v := 6) hx hb dX8_least_36 (by decide) ?_
          refine lv_icmp_ne (tgt := 45) hx hb dX8_least_38 (by decide) (fun c5 => ?_) (fun c5 => ?_)
          · refine lv_iconst (v := 0) hx hb dX8_least_45 (by decide) ?_
            exact e_i hf hr hlocks hw rfl (congrArg (fun z => (z, μ)) ((if_neg c1).trans ((if_neg c2).trans ((if_neg c3).trans ((if_neg c4).trans ((if_neg c5).trans rfl)))))) dX8_least_46
          · refine lv_iconst (v := 1) hx hb dX8_least_41 (by decide) ?_
            refine lv_goto (tgt := 46) hx hb dX8_least_42 (by decide) ?_
            exact e_i hf hr hlocks hw rfl (congrArg (fun z => (z, μ)) ((if_neg c1).trans ((if_neg c2).trans ((if_neg c3).trans ((if_neg c4).trans ((if_pos c5).trans rfl)))))) dX8_least_46
        · refine lv_bipush (v := 8) hx hb dX8_least_30 (by decide) ?_
          refine lv_goto (tgt := 46) hx hb dX8_least_32 (by decide) ?_
          exact e_i hf hr hlocks hw rfl (congrArg (fun z => (z, μ)) ((if_neg c1).trans ((if_neg c2).trans ((if_neg c3).trans ((if_pos c4).trans rfl))))) dX8_least_46
      · refine lv_bipush (v := 100) hx hb dX8_least_20 (by decide) ?_
        refine lv_goto (tgt := 46) hx hb dX8_least_22 (by decide) ?_
        exact e_i hf hr hlocks hw rfl (congrArg (fun z => (z, μ)) ((if_neg c1).trans ((if_neg c2).trans ((if_pos c3).trans rfl)))) dX8_least_46
  · refine lv_sipush (v := 10000) hx hb dX8_least_4 (by decide) ?_
    refine lv_goto (tgt := 46) hx hb dX8_least_7 (by decide) ?_
    exact e_i hf hr hlocks hw rfl (congrArg (fun z => (z, μ)) ((if_pos c1).trans rfl)) dX8_least_46
def sp_X8_most   (w : Int32) : Int32 :=
  if (w : Int32) = 0 then
    1000000
  else
    if (w : Int32) = 1 then
      5000
    else
      if (w : Int32) = 2 then
        5000
      else
        if (w : Int32) = 3 then
          24
        else
          if (w : Int32) = 4 then
            50000
          else
            if (w : Int32) = 5 then
              100000
            else
              9
set_option maxHeartbeats 4000000 in
set_option maxRecDepth 100000 in
theorem k_X8_most (l : Launch) (E : En) (μ : Mu)  (w : Int32)  : MtI l yX8_most cX8_most 1 .int ({ frames := 0, cells := 0, slots := 0, locals := 0 }) [.int (w)] E μ ((sp_X8_most  w), μ) := by
  refine mt_of (by decide +kernel) (Nat.le_of_ble_eq_true rfl) ?_
  intro p e s m args below meth c ls hf hr hlocks hl hw
  have hx := hf.1
  have hb := hf.2.1
  have hl : lv_has ls 1 [(0, .int (w))] := hl
  refine lv_iload_n hx hb dX8_most_0 rfl (lv_at hl 0 rfl) ?_
  by_cases c1 : w = 0
  · refine lv_tableIn (off := 39) (tgt := 40) hx hb dX8_most_1 (by rw [c1]; decide) (by rw [c1]; decide) (by rw [c1]; rfl) (by decide) ?_
    refine lv_ldc hx hb hf.2.2.2.1 (hf.2.2.2.2 _ q733) dX8_most_40 ?_
    exact e_i hf hr hlocks hw rfl (congrArg (fun z => (z, μ)) ((if_pos c1).trans rfl)) dX8_most_42
  · skip
    by_cases c2 : w = 1
    · refine lv_tableIn (off := 42) (tgt := 43) hx hb dX8_most_1 (by rw [c2]; decide) (by rw [c2]; decide) (by rw [c2]; rfl) (by decide) ?_
      refine lv_sipush (v := 5000) hx hb dX8_most_43 (by decide) ?_
      exact e_i hf hr hlocks hw rfl (congrArg (fun z => (z, μ)) ((if_neg c1).trans ((if_pos c2).trans rfl))) dX8_most_46
    · skip
      by_cases c3 : w = 2
      · refine lv_tableIn (off := 42) (tgt := 43) hx hb dX8_most_1 (by rw [c3]; decide) (by rw [c3]; decide) (by rw [c3]; rfl) (by decide) ?_
        refine lv_sipush (v := 5000) hx hb dX8_most_43 (by decide) ?_
        exact e_i hf hr hlocks hw rfl (congrArg (fun z => (z, μ)) ((if_neg c1).trans ((if_neg c2).trans ((if_pos c3).trans rfl)))) dX8_most_46
      · skip
        by_cases c4 : w = 3
        · refine lv_tableIn (off := 46) (tgt := 47) hx hb dX8_most_1 (by rw [c4]; decide) (by rw [c4]; decide) (by rw [c4]; rfl) (by decide) ?_
          refine lv_bipush (v := 24) hx hb dX8_most_47 (by decide) ?_
          exact e_i hf hr hlocks hw rfl (congrArg (fun z => (z, μ)) ((if_neg c1).trans ((if_neg c2).trans ((if_neg c3).trans ((if_pos c4).trans rfl))))) dX8_most_49
        · skip
          by_cases c5 : w = 4
          · refine lv_tableIn (off := 49) (tgt := 50) hx hb dX8_most_1 (by rw [c5]; decide) (by rw [c5]; decide) (by rw [c5]; rfl) (by decide) ?_
            refine lv_ldc hx hb hf.2.2.2.1 (hf.2.2.2.2 _ q437) dX8_most_50 ?_
            exact e_i hf hr hlocks hw rfl (congrArg (fun z => (z, μ)) ((if_neg c1).trans ((if_neg c2).trans ((if_neg c3).trans ((if_neg c4).trans ((if_pos c5).trans rfl)))))) dX8_most_52
          · skip
            by_cases c6 : w = 5
            · refine lv_tableIn (off := 52) (tgt := 53) hx hb dX8_most_1 (by rw [c6]; decide) (by rw [c6]; decide) (by rw [c6]; rfl) (by decide) ?_
              refine lv_ldc hx hb hf.2.2.2.1 (hf.2.2.2.2 _ q97) dX8_most_53 ?_
              exact e_i hf hr hlocks hw rfl (congrArg (fun z => (z, μ)) ((if_neg c1).trans ((if_neg c2).trans ((if_neg c3).trans ((if_neg c4).trans ((if_neg c5).trans ((if_pos c6).trans rfl))))))) dX8_most_55
            · skip
              have hsw : w.toInt ≠ 0 ∧ w.toInt ≠ 1 ∧ w.toInt ≠ 2 ∧ w.toInt ≠ 3 ∧ w.toInt ≠ 4 ∧ w.toInt ≠ 5 := ⟨ne_toInt c1 (by decide), ne_toInt c2 (by decide), ne_toInt c3 (by decide), ne_toInt c4 (by decide), ne_toInt c5 (by decide), ne_toInt c6 (by decide)⟩
              refine lv_tableOut (tgt := 56) hx hb dX8_most_1 (by omega) (by decide) ?_
              refine lv_bipush (v := 9) hx hb dX8_most_56 (by decide) ?_
              exact e_i hf hr hlocks hw rfl (congrArg (fun z => (z, μ)) ((if_neg c1).trans ((if_neg c2).trans ((if_neg c3).trans ((if_neg c4).trans ((if_neg c5).trans ((if_neg c6).trans rfl))))))) dX8_most_58
def sp_X8_isBase   (v : Int64) : Int32 :=
  if (v : Int64) < 1000 then
    0
  else
    if (2000000 : Int64) < v then
      0
    else
      1
set_option maxHeartbeats 4000000 in
set_option maxRecDepth 100000 in
theorem k_X8_isBase (l : Launch) (E : En) (μ : Mu)  (v : Int64)  : MtI l yX8_isBase cX8_isBase 2 .boolean ({ frames := 0, cells := 0, slots := 0, locals := 0 }) [.long (v)] E μ ((sp_X8_isBase  v), μ) := by
  refine mt_of (by decide +kernel) (Nat.le_of_ble_eq_true rfl) ?_
  intro p e s m args below meth c ls hf hr hlocks hl hw
  have hx := hf.1
  have hb := hf.2.1
  have hl : lv_has ls 2 [(0, .long (v))] := hl
  refine lv_lload_n hx hb dX8_isBase_0 rfl (lv_at hl 0 rfl) ?_
  refine lv_ldc2 hx hb hf.2.2.2.1 (hf.2.2.2.2 _ q511) dX8_isBase_1 ?_
  refine W.lcmp hx hb dX8_isBase_4 ?_
  refine lv_if_lt (tgt := 20) hx hb dX8_isBase_5 (by decide) (fun c1 => ?_) (fun c1 => ?_)
  · replace c1 := (lg_cmp_lt _ _).mp c1
    refine lv_iconst (v := 0) hx hb dX8_isBase_20 (by decide) ?_
    exact e_i hf hr hlocks hw rfl (congrArg (fun z => (z, μ)) ((if_pos c1).trans rfl)) dX8_isBase_21
  · replace c1 := mt (lg_cmp_lt _ _).mpr c1
    refine lv_lload_n hx hb dX8_isBase_8 rfl (lv_at hl 0 rfl) ?_
    refine lv_ldc2 hx hb hf.2.2.2.1 (hf.2.2.2.2 _ q512) dX8_isBase_9 ?_
    refine W.lcmp hx hb dX8_isBase_12 ?_
    refine lv_if_gt (tgt := 20) hx hb dX8_isBase_13 (by decide) (fun c2 => ?_) (fun c2 => ?_)
    · replace c2 := (lg_cmp_gt _ _).mp c2
      refine lv_iconst (v := 0) hx hb dX8_isBase_20 (by decide) ?_
      exact e_i hf hr hlocks hw rfl (congrArg (fun z => (z, μ)) ((if_neg c1).trans ((if_pos c2).trans rfl))) dX8_isBase_21
    · replace c2 := mt (lg_cmp_gt _ _).mpr c2
      refine lv_iconst (v := 1) hx hb dX8_isBase_16 (by decide) ?_
      refine lv_goto (tgt := 21) hx hb dX8_isBase_17 (by decide) ?_
      exact e_i hf hr hlocks hw rfl (congrArg (fun z => (z, μ)) ((if_neg c1).trans ((if_neg c2).trans rfl))) dX8_isBase_21
theorem n_X8_isBase (μ : Mu)  (v : Int64)  : (sp_X8_isBase  v) = bz ((1000 : Int64) ≤ v ∧ v ≤ 2000000) := by
  unfold sp_X8_isBase bz
  repeat' (first | rfl | split)
  all_goals (first | (exfalso; simp_all; done) | (exfalso; simp only [Int32.le_iff_toInt_le, Int32.lt_iff_toInt_lt, Int64.le_iff_toInt_le, Int64.lt_iff_toInt_lt] at *; omega))
theorem kn_X8_isBase (l : Launch) (E : En) (μ : Mu)  (v : Int64)  : MtI l yX8_isBase cX8_isBase 2 .boolean ({ frames := 0, cells := 0, slots := 0, locals := 0 }) [.long (v)] E μ (bz ((1000 : Int64) ≤ v ∧ v ≤ 2000000), μ) := by
  rw [← n_X8_isBase μ v ]
  exact k_X8_isBase l E μ  v 
def sp_X8_drift (μ : Mu)  (a : Int32) (b : Int32) : Int32 × Mu :=
  if 0 ≤ a ∧ a ≤ (μ.1 8 1) - 1 then
    if ((-100000) : Int32) ≤ b ∧ b ≤ (100000 : Int32) then
      if (1000 : Int64) ≤ ((((μ.1 8 (85 + 29 * a.toNatClampNeg + 2)).toInt64) * (1000000 + (b.toInt64))) / 1000000) ∧ ((((μ.1 8 (85 + 29 * a.toNatClampNeg + 2)).toInt64) * (1000000 + (b.toInt64))) / 1000000) ≤ 2000000 then
        ((sp_X8_acted (pM (pC μ 11 0 8 0 259) 8 (85 + 29 * a.toNatClampNeg + 2) (((((μ.1 8 (85 + 29 * a.toNatClampNeg + 2)).toInt64) * (1000000 + (b.toInt64))) / 1000000).toInt32))  (((((μ.1 8 (85 + 29 * a.toNatClampNeg + 2)).toInt64) * (1000000 + (b.toInt64))) / 1000000).toInt32)).1, (sp_X8_acted (pM (pC μ 11 0 8 0 259) 8 (85 + 29 * a.toNatClampNeg + 2) (((((μ.1 8 (85 + 29 * a.toNatClampNeg + 2)).toInt64) * (1000000 + (b.toInt64))) / 1000000).toInt32))  (((((μ.1 8 (85 + 29 * a.toNatClampNeg + 2)).toInt64) * (1000000 + (b.toInt64))) / 1000000).toInt32)).2)
      else
        ((-2000000002), μ)
    else
      ((-2000000001), μ)
  else
    ((-2000000001), μ)
set_option maxHeartbeats 4000000 in
set_option maxRecDepth 100000 in
theorem k_X8_drift (l : Launch) (E : En) (μ : Mu)  (a : Int32) (b : Int32) (hI : RI (μ.1 8)) (hst : ni 5 (μ.1 7 0)) : MtI l yX8_drift cX8_drift 5 .int ({ frames := 2, cells := 0, slots := 0, locals := 43 }) [.ref (E.1 (232)), .int (a), .int (b)] E μ (sp_X8_drift μ a b) := by
  refine mt_of (by decide +kernel) (Nat.le_of_ble_eq_true rfl) ?_
  intro p e s m args below meth c ls hf hr hlocks hl hw
  have hx := hf.1
  have hb := hf.2.1
  have hl : lv_has ls 5 [(0, .ref (E.1 (232))), (1, .int (a)), (2, .int (b))] := hl
  refine lv_aload_n hx hb dX8_drift_0 rfl (lv_at hl 0 rfl) ?_
  refine lv_iload_n hx hb dX8_drift_1 rfl (lv_at hl 1 rfl) ?_
  refine c_iR hw (run_V (As := [.int (a)]) (rest := []) (np := 1) hf hw (kn_X8_isSensor l E _  a  ) ⟨gl_V q370 q371 q372 q5 q373, by decide +kernel⟩ ⟨rfl, rfl, Nat.le_of_ble_eq_true rfl, Nat.le_of_ble_eq_true rfl⟩ (by decide) (c_R E _) rfl rfl hl.1 rfl (Nat.le_of_ble_eq_true rfl) dX8_drift_2 ⟨Nat.zero_le _, Nat.zero_le _⟩) (fun H locs hw => ?_)
  refine lv_if_eq (tgt := 19) hx hb dX8_drift_5 (by decide) (fun c1 => ?_) (fun c1 => ?_)
  · replace c1 := (bz_0 _).mp c1
    refine lv_ldc hx hb hf.2.2.2.1 (hf.2.2.2.2 _ q154) dX8_drift_19 ?_
    exact e_i hf hr hlocks hw rfl ((if_neg c1).trans rfl) dX8_drift_21
  · replace c1 := (bz_n0 _).mp c1
    have c1a := (ni_of hI.2.1 (by decide) c1)
    have c1ab : a.toNatClampNeg < 6 := Nat.lt_of_lt_of_le c1a.2 (Nat.le_of_lt_succ hI.2.1.2)
    refine lv_iload_n hx hb dX8_drift_8 rfl (lv_at hl 2 rfl) ?_
    refine lv_ldc hx hb hf.2.2.2.1 (hf.2.2.2.2 _ q463) dX8_drift_9 ?_
    refine lv_ldc hx hb hf.2.2.2.1 (hf.2.2.2.2 _ q97) dX8_drift_11 ?_
    refine c_iR hw (run_S (As := [.int (b), .int (-100000), .int 100000]) (rest := []) (np := 3) hf hw (kn_X8_in l E _  b ((-100000) : Int32) (100000 : Int32)  ) ⟨gl_S q207 q208 q5 q209, by decide +kernel⟩ ⟨rfl, rfl, Nat.le_of_ble_eq_true rfl, Nat.le_of_ble_eq_true rfl⟩ rfl hl.1 rfl (Nat.le_of_ble_eq_true rfl) dX8_drift_13 ⟨Nat.zero_le _, Nat.zero_le _⟩) (fun H locs hw => ?_)
    refine lv_if_ne (tgt := 22) hx hb dX8_drift_16 (by decide) (fun c2 => ?_) (fun c2 => ?_)
    · replace c2 := (bz_n0 _).mp c2
      refine lv_aload_n hx hb dX8_drift_22 rfl (lv_at hl 0 rfl) ?_
      refine lv_iload_n hx hb dX8_drift_23 rfl (lv_at hl 1 rfl) ?_
      refine fold_i (show a = nI (a.toNatClampNeg) from c1a.1) ?_
      refine lv_iconst (v := 2) hx hb dX8_drift_24 (by decide) ?_
      refine c_iR hw (run_V (As := [.int (nI (a.toNatClampNeg)), .int 2]) (rest := []) (np := 2) hf hw (kn_X8_of l E _  a.toNatClampNeg 2  (show a.toNatClampNeg < 6 from c1ab) (show 2 < 29 from (by decide))) ⟨gl_V q227 q228 q229 q5 q230, by decide +kernel⟩ ⟨rfl, rfl, Nat.le_of_ble_eq_true rfl, Nat.le_of_ble_eq_true rfl⟩ (by decide) (c_R E _) rfl rfl hl.1 rfl (Nat.le_of_ble_eq_true rfl) dX8_drift_25 ⟨Nat.zero_le _, Nat.zero_le _⟩) (fun H locs hw => ?_)
      refine lv_i2l hx hb dX8_drift_28 rfl ?_
      refine lv_ldc2 hx hb hf.2.2.2.1 (hf.2.2.2.2 _ q507) dX8_drift_29 ?_
      refine lv_iload_n hx hb dX8_drift_32 rfl (lv_at hl 2 rfl) ?_
      refine lv_i2l hx hb dX8_drift_33 rfl ?_
      refine lv_ladd hx hb dX8_drift_34 ?_
      refine lv_lmul hx hb dX8_drift_35 ?_
      refine lv_ldc2 hx hb hf.2.2.2.1 (hf.2.2.2.2 _ q507) dX8_drift_36 ?_
      refine lv_ldiv hx hb dX8_drift_39 (by decide) ?_
      refine lv_lstore_n (lv' := [(3, .long ((((μ.1 8 (85 + 29 * a.toNatClampNeg + 2)).toInt64) * (1000000 + (b.toInt64))) / 1000000)), (0, .ref (E.1 (232))), (1, .int (a)), (2, .int (b))]) hx hb dX8_drift_40 rfl hl (by decide) rfl (fun ls hl => ?_)
      refine lv_lload_n hx hb dX8_drift_41 rfl (lv_at hl 0 rfl) ?_
      refine c_iR hw (run_S (As := [.long ((((μ.1 8 (85 + 29 * a.toNatClampNeg + 2)).toInt64) * (1000000 + (b.toInt64))) / 1000000)]) (rest := []) (np := 1) hf hw (kn_X8_isBase l E _  ((((μ.1 8 (85 + 29 * a.toNatClampNeg + 2)).toInt64) * (1000000 + (b.toInt64))) / 1000000)  ) ⟨gl_S q508 q509 q5 q510, by decide +kernel⟩ ⟨rfl, rfl, Nat.le_of_ble_eq_true rfl, Nat.le_of_ble_eq_true rfl⟩ rfl hl.1 rfl (Nat.le_of_ble_eq_true rfl) dX8_drift_42 ⟨Nat.zero_le _, Nat.zero_le _⟩) (fun H locs hw => ?_)
      refine lv_if_ne (tgt := 51) hx hb dX8_drift_45 (by decide) (fun c3 => ?_) (fun c3 => ?_)
      · replace c3 := (bz_n0 _).mp c3
        refine lv_aload_n hx hb dX8_drift_51 rfl (lv_at hl 1 rfl) ?_
        refine c_v hw (run_V (As := []) (rest := []) (np := 0) hf hw (kn_X8_keeps l E _    ) ⟨gl_V q146 q147 q148 q5 q149, by decide +kernel⟩ ⟨rfl, rfl, Nat.le_of_ble_eq_true rfl, Nat.le_of_ble_eq_true rfl⟩ (by decide) (c_R E _) rfl rfl hl.1 rfl (Nat.le_of_ble_eq_true rfl) dX8_drift_52 ⟨Nat.zero_le _, Nat.zero_le _⟩) (fun H locs hw => ?_)
        refine lv_aload_n hx hb dX8_drift_55 rfl (lv_at hl 1 rfl) ?_
        refine lv_iload_n hx hb dX8_drift_56 rfl (lv_at hl 2 rfl) ?_
        refine fold_i (show a = nI (a.toNatClampNeg) from c1a.1) ?_
        refine lv_iconst (v := 2) hx hb dX8_drift_57 (by decide) ?_
        refine lv_lload_n hx hb dX8_drift_58 rfl (lv_at hl 0 rfl) ?_
        refine lv_l2i hx hb dX8_drift_59 rfl ?_
        refine c_v hw (run_V (As := [.int (nI (a.toNatClampNeg)), .int 2, .int (((((μ.1 8 (85 + 29 * a.toNatClampNeg + 2)).toInt64) * (1000000 + (b.toInt64))) / 1000000).toInt32)]) (rest := []) (np := 3) hf hw (kn_X8_put l E _  a.toNatClampNeg 2 (((((μ.1 8 (85 + 29 * a.toNatClampNeg + 2)).toInt64) * (1000000 + (b.toInt64))) / 1000000).toInt32)  (show a.toNatClampNeg < 6 from c1ab) (show 2 < 29 from (by decide))) ⟨gl_V q335 q336 q337 q5 q338, by decide +kernel⟩ ⟨rfl, rfl, Nat.le_of_ble_eq_true rfl, Nat.le_of_ble_eq_true rfl⟩ (by decide) (c_R E _) rfl rfl hl.1 rfl (Nat.le_of_ble_eq_true rfl) dX8_drift_60 ⟨Nat.zero_le _, Nat.zero_le _⟩) (fun H locs hw => ?_)
        refine lv_aload_n hx hb dX8_drift_63 rfl (lv_at hl 1 rfl) ?_
        refine lv_lload_n hx hb dX8_drift_64 rfl (lv_at hl 0 rfl) ?_
        refine lv_l2i hx hb dX8_drift_65 rfl ?_
        refine c_i hw (run_V (As := [.int (((((μ.1 8 (85 + 29 * a.toNatClampNeg + 2)).toInt64) * (1000000 + (b.toInt64))) / 1000000).toInt32)]) (rest := []) (np := 1) hf hw (k_X8_acted l E _  (((((μ.1 8 (85 + 29 * a.toNatClampNeg + 2)).toInt64) * (1000000 + (b.toInt64))) / 1000000).toInt32)  (s7_ni (x := μ.1 7 0) (s7_pM (by decide) (s7_pC (by decide) (rfl : S7 (μ.1 7 0) μ))) hst)) ⟨gl_V q150 q151 q152 q5 q153, by decide +kernel⟩ ⟨rfl, rfl, Nat.le_of_ble_eq_true rfl, Nat.le_of_ble_eq_true rfl⟩ (by decide) (c_R E _) rfl rfl hl.1 rfl (Nat.le_of_ble_eq_true rfl) dX8_drift_66 ⟨Nat.zero_le _, Nat.zero_le _⟩) (fun H locs hw => ?_)
        exact e_i hf hr hlocks hw rfl ((if_pos c1).trans ((if_pos c2).trans ((if_pos c3).trans rfl))) dX8_drift_69
      · replace c3 := (bz_0 _).mp c3
        refine lv_ldc hx hb hf.2.2.2.1 (hf.2.2.2.2 _ q202) dX8_drift_48 ?_
        exact e_i hf hr hlocks hw rfl ((if_pos c1).trans ((if_pos c2).trans ((if_neg c3).trans rfl))) dX8_drift_50
    · replace c2 := (bz_0 _).mp c2
      refine lv_ldc hx hb hf.2.2.2.1 (hf.2.2.2.2 _ q154) dX8_drift_19 ?_
      exact e_i hf hr hlocks hw rfl ((if_pos c1).trans ((if_neg c2).trans rfl)) dX8_drift_21
def sp_X8_set (μ : Mu)  (a : Int32) (b : Int32) : Int32 × Mu :=
  if (0 : Int32) ≤ a ∧ a ≤ (6 : Int32) then
    if (sp_X8_least   (nI (a.toNatClampNeg))) ≤ b ∧ b ≤ (sp_X8_most   (nI (a.toNatClampNeg))) then
      ((sp_X8_acted (pM (pC μ 11 0 8 0 259) 8 (2 + a.toNatClampNeg) b)  (μ.1 8 (2 + a.toNatClampNeg))).1, (sp_X8_acted (pM (pC μ 11 0 8 0 259) 8 (2 + a.toNatClampNeg) b)  (μ.1 8 (2 + a.toNatClampNeg))).2)
    else
      ((-2000000001), μ)
  else
    ((-2000000001), μ)
set_option maxHeartbeats 4000000 in
set_option maxRecDepth 100000 in
theorem k_X8_set (l : Launch) (E : En) (μ : Mu)  (a : Int32) (b : Int32) (hI : RI (μ.1 8)) (hst : ni 5 (μ.1 7 0)) : MtI l yX8_set cX8_set 4 .int ({ frames := 1, cells := 0, slots := 0, locals := 22 }) [.ref (E.1 (232)), .int (a), .int (b)] E μ (sp_X8_set μ a b) := by
  refine mt_of (by decide +kernel) (Nat.le_of_ble_eq_true rfl) ?_
  intro p e s m args below meth c ls hf hr hlocks hl hw
  have hx := hf.1
  have hb := hf.2.1
  have hl : lv_has ls 4 [(0, .ref (E.1 (232))), (1, .int (a)), (2, .int (b))] := hl
  refine lv_iload_n hx hb dX8_set_0 rfl (lv_at hl 1 rfl) ?_
  refine lv_iconst (v := 0) hx hb dX8_set_1 (by decide) ?_
  refine lv_bipush (v := 6) hx hb dX8_set_2 (by decide) ?_
  refine c_iR hw (run_S (As := [.int (a), .int 0, .int 6]) (rest := []) (np := 3) hf hw (kn_X8_in l E _  a (0 : Int32) (6 : Int32)  ) ⟨gl_S q207 q208 q5 q209, by decide +kernel⟩ ⟨rfl, rfl, Nat.le_of_ble_eq_true rfl, Nat.le_of_ble_eq_true rfl⟩ rfl hl.1 rfl (Nat.le_of_ble_eq_true rfl) dX8_set_4 ⟨Nat.zero_le _, Nat.zero_le _⟩) (fun H locs hw => ?_)
  refine lv_if_eq (tgt := 25) hx hb dX8_set_7 (by decide) (fun c1 => ?_) (fun c1 => ?_)
  · replace c1 := (bz_0 _).mp c1
    refine lv_ldc hx hb hf.2.2.2.1 (hf.2.2.2.2 _ q154) dX8_set_25 ?_
    exact e_i hf hr hlocks hw rfl ((if_neg c1).trans rfl) dX8_set_27
  · replace c1 := (bz_n0 _).mp c1
    have c1a := (na_lit 6 rfl (by decide) c1)
    have c1ab : a.toNatClampNeg < 7 := c1a.2
    refine lv_iload_n hx hb dX8_set_10 rfl (lv_at hl 2 rfl) ?_
    refine lv_iload_n hx hb dX8_set_11 rfl (lv_at hl 1 rfl) ?_
    refine fold_i (show a = nI (a.toNatClampNeg) from c1a.1) ?_
    refine c_iR hw (run_S (As := [.int (nI (a.toNatClampNeg))]) (rest := [.int (b)]) (np := 1) hf hw (k_X8_least l E _  (nI (a.toNatClampNeg))  ) ⟨gl_S q727 q728 q5 q729, by decide +kernel⟩ ⟨rfl, rfl, Nat.le_of_ble_eq_true rfl, Nat.le_of_ble_eq_true rfl⟩ rfl hl.1 rfl (Nat.le_of_ble_eq_true rfl) dX8_set_12 ⟨Nat.zero_le _, Nat.zero_le _⟩) (fun H locs hw => ?_)
    refine lv_iload_n hx hb dX8_set_15 rfl (lv_at hl 1 rfl) ?_
    refine fold_i (show a = nI (a.toNatClampNeg) from c1a.1) ?_
    refine c_iR hw (run_S (As := [.int (nI (a.toNatClampNeg))]) (rest := [.int (sp_X8_least   (nI (a.toNatClampNeg))), .int (b)]) (np := 1) hf hw (k_X8_most l E _  (nI (a.toNatClampNeg))  ) ⟨gl_S q730 q731 q5 q732, by decide +kernel⟩ ⟨rfl, rfl, Nat.le_of_ble_eq_true rfl, Nat.le_of_ble_eq_true rfl⟩ rfl hl.1 rfl (Nat.le_of_ble_eq_true rfl) dX8_set_16 ⟨Nat.zero_le _, Nat.zero_le _⟩) (fun H locs hw => ?_)
    refine c_iR hw (run_S (As := [.int (b), .int (sp_X8_least   (nI (a.toNatClampNeg))), .int (sp_X8_most   (nI (a.toNatClampNeg)))]) (rest := []) (np := 3) hf hw (kn_X8_in l E _  b (sp_X8_least   (nI (a.toNatClampNeg))) (sp_X8_most   (nI (a.toNatClampNeg)))  ) ⟨gl_S q207 q208 q5 q209, by decide +kernel⟩ ⟨rfl, rfl, Nat.le_of_ble_eq_true rfl, Nat.le_of_ble_eq_true rfl⟩ rfl hl.1 rfl (Nat.le_of_ble_eq_true rfl) dX8_set_19 ⟨Nat.zero_le _, Nat.zero_le _⟩) (fun H locs hw => ?_)
    refine lv_if_ne (tgt := 28) hx hb dX8_set_22 (by decide) (fun c2 => ?_) (fun c2 => ?_)
    · replace c2 := (bz_n0 _).mp c2
      refine lv_aload_n hx hb dX8_set_28 rfl (lv_at hl 0 rfl) ?_
      refine c_v hw (run_V (As := []) (rest := []) (np := 0) hf hw (kn_X8_keeps l E _    ) ⟨gl_V q146 q147 q148 q5 q149, by decide +kernel⟩ ⟨rfl, rfl, Nat.le_of_ble_eq_true rfl, Nat.le_of_ble_eq_true rfl⟩ (by decide) (c_R E _) rfl rfl hl.1 rfl (Nat.le_of_ble_eq_true rfl) dX8_set_29 ⟨Nat.zero_le _, Nat.zero_le _⟩) (fun H locs hw => ?_)
      refine lv_aload_n hx hb dX8_set_32 rfl (lv_at hl 0 rfl) ?_
      refine g_f hw hf (by decide) (c_R E _) rfl inlX8 0 (by decide) rfl q90 rfl dX8_set_33 ?_
      refine lv_iconst (v := 2) hx hb dX8_set_36 (by decide) ?_
      refine lv_iload_n hx hb dX8_set_37 rfl (lv_at hl 1 rfl) ?_
      refine fold_i (show a = nI (a.toNatClampNeg) from c1a.1) ?_
      refine lv_iadd hx hb dX8_set_38 ?_
      refine fold_i (show (2 : Int32) + nI (a.toNatClampNeg) = nI (2 + a.toNatClampNeg) from nI_add (2) (a.toNatClampNeg)) ?_
      refine g_a hw hf (by decide) (c_Rs E _) (vp_in_nI (show 2 + a.toNatClampNeg < 259 from (by omega)) (by decide)) ((tr_at (y := 2 + a.toNatClampNeg) (by omega) (nI_clamp (Nat.lt_trans (show 2 + a.toNatClampNeg < 259 from (by omega)) (by decide)))).trans (show _ = μ.1 8 (2 + a.toNatClampNeg) from (by first | (simp [pM, pJ, upM, upJ, sF, tN, tD, tR, tk_M, tk_K, tk_0, tk_1, tk_2, tk_3, tk_4, tk_5, tk_6, tk_7, tk_8, tk_9, tk_10, tk_o, ms_0_0, ms_0_1, ms_0_2, ms_0_3, ms_0_4, ms_0_5, ms_0_6, ms_0_7, ms_0_8, ms_0_9, ms_0_10, ms_1_0, ms_1_1, ms_1_2, ms_1_3, ms_1_4, ms_1_5, ms_1_6, ms_1_7, ms_1_8, ms_1_9, ms_1_10, ms_w, ms_r, ms_d, ms_M, ms_6, ms_K, pC_row]; done) | (simp (disch := (first | omega | (simp only [tN, tD, tR, sF]; omega))) only [pM, pJ, upM_s, upM_k, upM_c, upJ_s, upJ_k, upJ_c, tk_M, tk_K, tk_0, tk_1, tk_2, tk_3, tk_4, tk_5, tk_6, tk_7, tk_8, tk_9, tk_10, tk_o, ms_0_0, ms_0_1, ms_0_2, ms_0_3, ms_0_4, ms_0_5, ms_0_6, ms_0_7, ms_0_8, ms_0_9, ms_0_10, ms_1_0, ms_1_1, ms_1_2, ms_1_3, ms_1_4, ms_1_5, ms_1_6, ms_1_7, ms_1_8, ms_1_9, ms_1_10, ms_w, ms_r, ms_d, ms_M, ms_6, ms_K, pC_row])))) dX8_set_39 ?_
      refine lv_istore_n (lv' := [(3, .int (μ.1 8 (2 + a.toNatClampNeg))), (0, .ref (E.1 (232))), (1, .int (a)), (2, .int (b))]) hx hb dX8_set_40 rfl hl (by decide) rfl (fun ls hl => ?_)
      refine lv_aload_n hx hb dX8_set_41 rfl (lv_at hl 1 rfl) ?_
      refine g_f hw hf (by decide) (c_R E _) rfl inlX8 0 (by decide) rfl q90 rfl dX8_set_42 ?_
      refine lv_iconst (v := 2) hx hb dX8_set_45 (by decide) ?_
      refine lv_iload_n hx hb dX8_set_46 rfl (lv_at hl 2 rfl) ?_
      refine fold_i (show a = nI (a.toNatClampNeg) from c1a.1) ?_
      refine lv_iadd hx hb dX8_set_47 ?_
      refine fold_i (show (2 : Int32) + nI (a.toNatClampNeg) = nI (2 + a.toNatClampNeg) from nI_add (2) (a.toNatClampNeg)) ?_
      refine lv_iload_n hx hb dX8_set_48 rfl (lv_at hl 3 rfl) ?_
      refine p_a hw hf (by decide) (c_Rs E _) (vp_in_nI (show 2 + a.toNatClampNeg < 259 from (by omega)) (by decide)) (by rw [show (nI (2 + a.toNatClampNeg)).toNatClampNeg = 2 + a.toNatClampNeg from (nI_clamp (Nat.lt_trans (show 2 + a.toNatClampNeg < 259 from (by omega)) (by decide)))]; exact (s_Rs E _ (by omega) _)) dX8_set_49 (fun H locs hw => ?_)
      refine lv_aload_n hx hb dX8_set_50 rfl (lv_at hl 1 rfl) ?_
      refine lv_iload_n hx hb dX8_set_51 rfl (lv_at hl 0 rfl) ?_
      refine c_i hw (run_V (As := [.int (μ.1 8 (2 + a.toNatClampNeg))]) (rest := []) (np := 1) hf hw (k_X8_acted l E _  (μ.1 8 (2 + a.toNatClampNeg))  (s7_ni (x := μ.1 7 0) (s7_pM (by decide) (s7_pC (by decide) (rfl : S7 (μ.1 7 0) μ))) hst)) ⟨gl_V q150 q151 q152 q5 q153, by decide +kernel⟩ ⟨rfl, rfl, Nat.le_of_ble_eq_true rfl, Nat.le_of_ble_eq_true rfl⟩ (by decide) (c_R E _) rfl rfl hl.1 rfl (Nat.le_of_ble_eq_true rfl) dX8_set_52 ⟨Nat.zero_le _, Nat.zero_le _⟩) (fun H locs hw => ?_)
      exact e_i hf hr hlocks hw rfl ((if_pos c1).trans ((if_pos c2).trans rfl)) dX8_set_55
    · replace c2 := (bz_0 _).mp c2
      refine lv_ldc hx hb hf.2.2.2.1 (hf.2.2.2.2 _ q154) dX8_set_25 ?_
      exact e_i hf hr hlocks hw rfl ((if_pos c1).trans ((if_neg c2).trans rfl)) dX8_set_27
def sp_X8_unplug (μ : Mu)  (a : Int32) : Int32 × Mu :=
  if 0 ≤ a ∧ a ≤ (μ.1 8 1) - 1 then
    if ((μ.1 8 (85 + 29 * a.toNatClampNeg + 13)) : Int32) = (-1) then
      ((-2000000002), μ)
    else
      ((sp_X8_acted (pM (pC μ 11 0 8 0 259) 8 (85 + 29 * a.toNatClampNeg + 13) ((-1) : Int32))  (μ.1 8 (85 + 29 * a.toNatClampNeg + 13))).1, (sp_X8_acted (pM (pC μ 11 0 8 0 259) 8 (85 + 29 * a.toNatClampNeg + 13) ((-1) : Int32))  (μ.1 8 (85 + 29 * a.toNatClampNeg + 13))).2)
  else
    ((-2000000001), μ)
set_option maxHeartbeats 4000000 in
set_option maxRecDepth 100000 in
theorem k_X8_unplug (l : Launch) (E : En) (μ : Mu)  (a : Int32) (hI : RI (μ.1 8)) (hst : ni 5 (μ.1 7 0)) : MtI l yX8_unplug cX8_unplug 3 .int ({ frames := 2, cells := 0, slots := 0, locals := 43 }) [.ref (E.1 (232)), .int (a)] E μ (sp_X8_unplug μ a) := by
  refine mt_of (by decide +kernel) (Nat.le_of_ble_eq_true rfl) ?_
  intro p e s m args below meth c ls hf hr hlocks hl hw
  have hx := hf.1
  have hb := hf.2.1
  have hl : lv_has ls 3 [(0, .ref (E.1 (232))), (1, .int (a))] := hl
  refine lv_aload_n hx hb dX8_unplug_0 rfl (lv_at hl 0 rfl) ?_
  refine lv_iload_n hx hb dX8_unplug_1 rfl (lv_at hl 1 rfl) ?_
  refine c_iR hw (run_V (As := [.int (a)]) (rest := []) (np := 1) hf hw (kn_X8_isSensor l E _  a  ) ⟨gl_V q370 q371 q372 q5 q373, by decide +kernel⟩ ⟨rfl, rfl, Nat.le_of_ble_eq_true rfl, Nat.le_of_ble_eq_true rfl⟩ (by decide) (c_R E _) rfl rfl hl.1 rfl (Nat.le_of_ble_eq_true rfl) dX8_unplug_2 ⟨Nat.zero_le _, Nat.zero_le _⟩) (fun H locs hw => ?_)
  refine lv_if_ne (tgt := 11) hx hb dX8_unplug_5 (by decide) (fun c1 => ?_) (fun c1 => ?_)
  · replace c1 := (bz_n0 _).mp c1
    have c1a := (ni_of hI.2.1 (by decide) c1)
    have c1ab : a.toNatClampNeg < 6 := Nat.lt_of_lt_of_le c1a.2 (Nat.le_of_lt_succ hI.2.1.2)
    refine lv_aload_n hx hb dX8_unplug_11 rfl (lv_at hl 0 rfl) ?_
    refine lv_iload_n hx hb dX8_unplug_12 rfl (lv_at hl 1 rfl) ?_
    refine fold_i (show a = nI (a.toNatClampNeg) from c1a.1) ?_
    refine lv_bipush (v := 13) hx hb dX8_unplug_13 (by decide) ?_
    refine c_iR hw (run_V (As := [.int (nI (a.toNatClampNeg)), .int 13]) (rest := []) (np := 2) hf hw (kn_X8_of l E _  a.toNatClampNeg 13  (show a.toNatClampNeg < 6 from c1ab) (show 13 < 29 from (by decide))) ⟨gl_V q227 q228 q229 q5 q230, by decide +kernel⟩ ⟨rfl, rfl, Nat.le_of_ble_eq_true rfl, Nat.le_of_ble_eq_true rfl⟩ (by decide) (c_R E _) rfl rfl hl.1 rfl (Nat.le_of_ble_eq_true rfl) dX8_unplug_15 ⟨Nat.zero_le _, Nat.zero_le _⟩) (fun H locs hw => ?_)
    refine lv_istore_n (lv' := [(2, .int ((μ.1 8 (85 + 29 * a.toNatClampNeg + 13)))), (0, .ref (E.1 (232))), (1, .int (a))]) hx hb dX8_unplug_18 rfl hl (by decide) rfl (fun ls hl => ?_)
    refine lv_iload_n hx hb dX8_unplug_19 rfl (lv_at hl 0 rfl) ?_
    refine lv_iconst (v := (-1)) hx hb dX8_unplug_20 (by decide) ?_
    refine lv_icmp_ne (tgt := 27) hx hb dX8_unplug_21 (by decide) (fun c2 => ?_) (fun c2 => ?_)
    · refine lv_aload_n hx hb dX8_unplug_27 rfl (lv_at hl 1 rfl) ?_
      refine c_v hw (run_V (As := []) (rest := []) (np := 0) hf hw (kn_X8_keeps l E _    ) ⟨gl_V q146 q147 q148 q5 q149, by decide +kernel⟩ ⟨rfl, rfl, Nat.le_of_ble_eq_true rfl, Nat.le_of_ble_eq_true rfl⟩ (by decide) (c_R E _) rfl rfl hl.1 rfl (Nat.le_of_ble_eq_true rfl) dX8_unplug_28 ⟨Nat.zero_le _, Nat.zero_le _⟩) (fun H locs hw => ?_)
      refine lv_aload_n hx hb dX8_unplug_31 rfl (lv_at hl 1 rfl) ?_
      refine lv_iload_n hx hb dX8_unplug_32 rfl (lv_at hl 2 rfl) ?_
      refine fold_i (show a = nI (a.toNatClampNeg) from c1a.1) ?_
      refine lv_bipush (v := 13) hx hb dX8_unplug_33 (by decide) ?_
      refine lv_iconst (v := (-1)) hx hb dX8_unplug_35 (by decide) ?_
      refine c_v hw (run_V (As := [.int (nI (a.toNatClampNeg)), .int 13, .int (-1)]) (rest := []) (np := 3) hf hw (kn_X8_put l E _  a.toNatClampNeg 13 ((-1) : Int32)  (show a.toNatClampNeg < 6 from c1ab) (show 13 < 29 from (by decide))) ⟨gl_V q335 q336 q337 q5 q338, by decide +kernel⟩ ⟨rfl, rfl, Nat.le_of_ble_eq_true rfl, Nat.le_of_ble_eq_true rfl⟩ (by decide) (c_R E _) rfl rfl hl.1 rfl (Nat.le_of_ble_eq_true rfl) dX8_unplug_36 ⟨Nat.zero_le _, Nat.zero_le _⟩) (fun H locs hw => ?_)
      refine lv_aload_n hx hb dX8_unplug_39 rfl (lv_at hl 1 rfl) ?_
      refine lv_iload_n hx hb dX8_unplug_40 rfl (lv_at hl 0 rfl) ?_
      refine c_i hw (run_V (As := [.int ((μ.1 8 (85 + 29 * a.toNatClampNeg + 13)))]) (rest := []) (np := 1) hf hw (k_X8_acted l E _  (μ.1 8 (85 + 29 * a.toNatClampNeg + 13))  (s7_ni (x := μ.1 7 0) (s7_pM (by decide) (s7_pC (by decide) (rfl : S7 (μ.1 7 0) μ))) hst)) ⟨gl_V q150 q151 q152 q5 q153, by decide +kernel⟩ ⟨rfl, rfl, Nat.le_of_ble_eq_true rfl, Nat.le_of_ble_eq_true rfl⟩ (by decide) (c_R E _) rfl rfl hl.1 rfl (Nat.le_of_ble_eq_true rfl) dX8_unplug_41 ⟨Nat.zero_le _, Nat.zero_le _⟩) (fun H locs hw => ?_)
      exact e_i hf hr hlocks hw rfl ((if_pos c1).trans ((if_neg c2).trans rfl)) dX8_unplug_44
    · refine lv_ldc hx hb hf.2.2.2.1 (hf.2.2.2.2 _ q202) dX8_unplug_24 ?_
      exact e_i hf hr hlocks hw rfl ((if_pos c1).trans ((if_pos c2).trans rfl)) dX8_unplug_26
  · replace c1 := (bz_0 _).mp c1
    refine lv_ldc hx hb hf.2.2.2.1 (hf.2.2.2.2 _ q154) dX8_unplug_8 ?_
    exact e_i hf hr hlocks hw rfl ((if_neg c1).trans rfl) dX8_unplug_10
def sp_X8_sensorOf (g : Nat → Int32)  (a : Int32) (b : Int32) : Int32 :=
  if 0 ≤ a ∧ a ≤ (g 1) - 1 then
    if (0 : Int32) ≤ b ∧ b ≤ (18 : Int32) then
      if (5 : Int32) ≤ (nI (b.toNatClampNeg)) ∧ (nI (b.toNatClampNeg)) ≤ (8 : Int32) then
        if (nI ((g (85 + 29 * a.toNatClampNeg + 1)).toNatClampNeg) : Int32) ≤ (nI (b.toNatClampNeg)) - 5 then
          (-2000000004)
        else
          if (nI (b.toNatClampNeg) : Int32) = 13 then
            if ((g (85 + 29 * a.toNatClampNeg + 13)) : Int32) = (-1) then
              (-2000000004)
            else
              (g (85 + 29 * a.toNatClampNeg + b.toNatClampNeg))
          else
            (g (85 + 29 * a.toNatClampNeg + b.toNatClampNeg))
      else
        if (nI (b.toNatClampNeg) : Int32) = 13 then
          if ((g (85 + 29 * a.toNatClampNeg + 13)) : Int32) = (-1) then
            (-2000000004)
          else
            (g (85 + 29 * a.toNatClampNeg + b.toNatClampNeg))
        else
          (g (85 + 29 * a.toNatClampNeg + b.toNatClampNeg))
    else
      (-2000000001)
  else
    (-2000000001)
set_option maxHeartbeats 4000000 in
set_option maxRecDepth 100000 in
theorem k_X8_sensorOf (l : Launch) (E : En) (μ : Mu)  (a : Int32) (b : Int32) (hI : RI (μ.1 8)) : MtI l yX8_sensorOf cX8_sensorOf 4 .int ({ frames := 2, cells := 0, slots := 0, locals := 43 }) [.ref (E.1 (232)), .int (a), .int (b)] E μ ((sp_X8_sensorOf (μ.1 8) a b), μ) := by
  refine mt_of (by decide +kernel) (Nat.le_of_ble_eq_true rfl) ?_
  intro p e s m args below meth c ls hf hr hlocks hl hw
  have hx := hf.1
  have hb := hf.2.1
  have hl : lv_has ls 4 [(0, .ref (E.1 (232))), (1, .int (a)), (2, .int (b))] := hl
  refine lv_aload_n hx hb dX8_sensorOf_0 rfl (lv_at hl 0 rfl) ?_
  refine lv_iload_n hx hb dX8_sensorOf_1 rfl (lv_at hl 1 rfl) ?_
  refine c_iR hw (run_V (As := [.int (a)]) (rest := []) (np := 1) hf hw (kn_X8_isSensor l E _  a  ) ⟨gl_V q370 q371 q372 q5 q373, by decide +kernel⟩ ⟨rfl, rfl, Nat.le_of_ble_eq_true rfl, Nat.le_of_ble_eq_true rfl⟩ (by decide) (c_R E _) rfl rfl hl.1 rfl (Nat.le_of_ble_eq_true rfl) dX8_sensorOf_2 ⟨Nat.zero_le _, Nat.zero_le _⟩) (fun H locs hw => ?_)
  refine lv_if_eq (tgt := 18) hx hb dX8_sensorOf_5 (by decide) (fun c1 => ?_) (fun c1 => ?_)
  · replace c1 := (bz_0 _).mp c1
    refine lv_ldc hx hb hf.2.2.2.1 (hf.2.2.2.2 _ q154) dX8_sensorOf_18 ?_
    exact e_i hf hr hlocks hw rfl (congrArg (fun z => (z, μ)) ((if_neg c1).trans rfl)) dX8_sensorOf_20
  · replace c1 := (bz_n0 _).mp c1
    have c1a := (ni_of hI.2.1 (by decide) c1)
    have c1ab : a.toNatClampNeg < 6 := Nat.lt_of_lt_of_le c1a.2 (Nat.le_of_lt_succ hI.2.1.2)
    refine lv_iload_n hx hb dX8_sensorOf_8 rfl (lv_at hl 2 rfl) ?_
    refine lv_iconst (v := 0) hx hb dX8_sensorOf_9 (by decide) ?_
    refine lv_bipush (v := 18) hx hb dX8_sensorOf_10 (by decide) ?_
    refine c_iR hw (run_S (As := [.int (b), .int 0, .int 18]) (rest := []) (np := 3) hf hw (kn_X8_in l E _  b (0 : Int32) (18 : Int32)  ) ⟨gl_S q207 q208 q5 q209, by decide +kernel⟩ ⟨rfl, rfl, Nat.le_of_ble_eq_true rfl, Nat.le_of_ble_eq_true rfl⟩ rfl hl.1 rfl (Nat.le_of_ble_eq_true rfl) dX8_sensorOf_12 ⟨Nat.zero_le _, Nat.zero_le _⟩) (fun H locs hw => ?_)
    refine lv_if_ne (tgt := 21) hx hb dX8_sensorOf_15 (by decide) (fun c2 => ?_) (fun c2 => ?_)
    · replace c2 := (bz_n0 _).mp c2
      have c2a := (na_lit 18 rfl (by decide) c2)
      have c2ab : b.toNatClampNeg < 19 := c2a.2
      refine lv_iload_n hx hb dX8_sensorOf_21 rfl (lv_at hl 2 rfl) ?_
      refine fold_i (show b = nI (b.toNatClampNeg) from c2a.1) ?_
      refine lv_iconst (v := 5) hx hb dX8_sensorOf_22 (by decide) ?_
      refine lv_bipush (v := 8) hx hb dX8_sensorOf_23 (by decide) ?_
      refine c_iR hw (run_S (As := [.int (nI (b.toNatClampNeg)), .int 5, .int 8]) (rest := []) (np := 3) hf hw (kn_X8_in l E _  (nI (b.toNatClampNeg)) (5 : Int32) (8 : Int32)  ) ⟨gl_S q207 q208 q5 q209, by decide +kernel⟩ ⟨rfl, rfl, Nat.le_of_ble_eq_true rfl, Nat.le_of_ble_eq_true rfl⟩ rfl hl.1 rfl (Nat.le_of_ble_eq_true rfl) dX8_sensorOf_25 ⟨Nat.zero_le _, Nat.zero_le _⟩) (fun H locs hw => ?_)
      refine lv_if_eq (tgt := 43) hx hb dX8_sensorOf_28 (by decide) (fun c3 => ?_) (fun c3 => ?_)
      · replace c3 := (bz_0 _).mp c3
        refine lv_iload_n hx hb dX8_sensorOf_43 rfl (lv_at hl 2 rfl) ?_
        refine fold_i (show b = nI (b.toNatClampNeg) from c2a.1) ?_
        refine lv_bipush (v := 13) hx hb dX8_sensorOf_44 (by decide) ?_
        refine lv_icmp_ne (tgt := 64) hx hb dX8_sensorOf_46 (by decide) (fun c4 => ?_) (fun c4 => ?_)
        · have c4n : ¬ (b.toNatClampNeg) = 13 := by have q := (nI_eq (a := (b.toNatClampNeg)) (b := 13) (by omega) (by omega)); first | exact q.mp c4 | exact fun z => c4 (q.mpr z)
          refine lv_iconst (v := 0) hx hb dX8_sensorOf_64 (by decide) ?_
          refine lv_istore_n (lv' := [(3, .int 0), (0, .ref (E.1 (232))), (1, .int (a)), (2, .int (b))]) hx hb dX8_sensorOf_65 rfl hl (by decide) rfl (fun ls hl => ?_)
          refine lv_iload_n hx hb dX8_sensorOf_66 rfl (lv_at hl 0 rfl) ?_
          refine lv_if_eq (tgt := 75) hx hb dX8_sensorOf_67 (by decide) (fun _ => ?_) (fun c => absurd c (by decide))
          refine lv_aload_n hx hb dX8_sensorOf_75 rfl (lv_at hl 1 rfl) ?_
          refine lv_iload_n hx hb dX8_sensorOf_76 rfl (lv_at hl 2 rfl) ?_
          refine fold_i (show a = nI (a.toNatClampNeg) from c1a.1) ?_
          refine lv_iload_n hx hb dX8_sensorOf_77 rfl (lv_at hl 3 rfl) ?_
          refine fold_i (show b = nI (b.toNatClampNeg) from c2a.1) ?_
          refine c_iR hw (run_V (As := [.int (nI (a.toNatClampNeg)), .int (nI (b.toNatClampNeg))]) (rest := []) (np := 2) hf hw (kn_X8_of l E _  a.toNatClampNeg b.toNatClampNeg  (show a.toNatClampNeg < 6 from c1ab) (show b.toNatClampNeg < 29 from (by omega))) ⟨gl_V q227 q228 q229 q5 q230, by decide +kernel⟩ ⟨rfl, rfl, Nat.le_of_ble_eq_true rfl, Nat.le_of_ble_eq_true rfl⟩ (by decide) (c_R E _) rfl rfl hl.1 rfl (Nat.le_of_ble_eq_true rfl) dX8_sensorOf_78 ⟨Nat.zero_le _, Nat.zero_le _⟩) (fun H locs hw => ?_)
          exact e_i hf hr hlocks hw rfl (congrArg (fun z => (z, μ)) ((if_pos c1).trans ((if_pos c2).trans ((if_neg c3).trans ((if_neg c4).trans rfl))))) dX8_sensorOf_81
        · have c4n : (b.toNatClampNeg) = 13 := by have q := (nI_eq (a := (b.toNatClampNeg)) (b := 13) (by omega) (by omega)); first | exact q.mp c4 | exact fun z => c4 (q.mpr z)
          refine lv_aload_n hx hb dX8_sensorOf_49 rfl (lv_at hl 0 rfl) ?_
          refine lv_iload_n hx hb dX8_sensorOf_50 rfl (lv_at hl 1 rfl) ?_
          refine fold_i (show a = nI (a.toNatClampNeg) from c1a.1) ?_
          refine lv_bipush (v := 13) hx hb dX8_sensorOf_51 (by decide) ?_
          refine c_iR hw (run_V (As := [.int (nI (a.toNatClampNeg)), .int 13]) (rest := []) (np := 2) hf hw (kn_X8_of l E _  a.toNatClampNeg 13  (show a.toNatClampNeg < 6 from c1ab) (show 13 < 29 from (by decide))) ⟨gl_V q227 q228 q229 q5 q230, by decide +kernel⟩ ⟨rfl, rfl, Nat.le_of_ble_eq_true rfl, Nat.le_of_ble_eq_true rfl⟩ (by decide) (c_R E _) rfl rfl hl.1 rfl (Nat.le_of_ble_eq_true rfl) dX8_sensorOf_53 ⟨Nat.zero_le _, Nat.zero_le _⟩) (fun H locs hw => ?_)
          refine lv_iconst (v := (-1)) hx hb dX8_sensorOf_56 (by decide) ?_
          refine lv_icmp_ne (tgt := 64) hx hb dX8_sensorOf_57 (by decide) (fun c6 => ?_) (fun c6 => ?_)
          · refine lv_iconst (v := 0) hx hb dX8_sensorOf_64 (by decide) ?_
            refine lv_istore_n (lv' := [(3, .int 0), (0, .ref (E.1 (232))), (1, .int (a)), (2, .int (b))]) hx hb dX8_sensorOf_65 rfl hl (by decide) rfl (fun ls hl => ?_)
            refine lv_iload_n hx hb dX8_sensorOf_66 rfl (lv_at hl 0 rfl) ?_
            refine lv_if_eq (tgt := 75) hx hb dX8_sensorOf_67 (by decide) (fun _ => ?_) (fun c => absurd c (by decide))
            refine lv_aload_n hx hb dX8_sensorOf_75 rfl (lv_at hl 1 rfl) ?_
            refine lv_iload_n hx hb dX8_sensorOf_76 rfl (lv_at hl 2 rfl) ?_
            refine fold_i (show a = nI (a.toNatClampNeg) from c1a.1) ?_
            refine lv_iload_n hx hb dX8_sensorOf_77 rfl (lv_at hl 3 rfl) ?_
            refine fold_i (show b = nI (b.toNatClampNeg) from c2a.1) ?_
            refine c_iR hw (run_V (As := [.int (nI (a.toNatClampNeg)), .int (nI (b.toNatClampNeg))]) (rest := []) (np := 2) hf hw (kn_X8_of l E _  a.toNatClampNeg b.toNatClampNeg  (show a.toNatClampNeg < 6 from c1ab) (show b.toNatClampNeg < 29 from (by omega))) ⟨gl_V q227 q228 q229 q5 q230, by decide +kernel⟩ ⟨rfl, rfl, Nat.le_of_ble_eq_true rfl, Nat.le_of_ble_eq_true rfl⟩ (by decide) (c_R E _) rfl rfl hl.1 rfl (Nat.le_of_ble_eq_true rfl) dX8_sensorOf_78 ⟨Nat.zero_le _, Nat.zero_le _⟩) (fun H locs hw => ?_)
            exact e_i hf hr hlocks hw rfl (congrArg (fun z => (z, μ)) ((if_pos c1).trans ((if_pos c2).trans ((if_neg c3).trans ((if_pos c4).trans ((if_neg c6).trans rfl)))))) dX8_sensorOf_81
          · refine lv_iconst (v := 1) hx hb dX8_sensorOf_60 (by decide) ?_
            refine lv_goto (tgt := 65) hx hb dX8_sensorOf_61 (by decide) ?_
            refine lv_istore_n (lv' := [(3, .int 1), (0, .ref (E.1 (232))), (1, .int (a)), (2, .int (b))]) hx hb dX8_sensorOf_65 rfl hl (by decide) rfl (fun ls hl => ?_)
            refine lv_iload_n hx hb dX8_sensorOf_66 rfl (lv_at hl 0 rfl) ?_
            refine lv_if_eq (tgt := 75) hx hb dX8_sensorOf_67 (by decide) (fun c => absurd c (by decide)) (fun _ => ?_)
            refine lv_ldc hx hb hf.2.2.2.1 (hf.2.2.2.2 _ q242) dX8_sensorOf_70 ?_
            refine lv_goto (tgt := 81) hx hb dX8_sensorOf_72 (by decide) ?_
            exact e_i hf hr hlocks hw rfl (congrArg (fun z => (z, μ)) ((if_pos c1).trans ((if_pos c2).trans ((if_neg c3).trans ((if_pos c4).trans ((if_pos c6).trans rfl)))))) dX8_sensorOf_81
      · replace c3 := (bz_n0 _).mp c3
        refine lv_iload_n hx hb dX8_sensorOf_31 rfl (lv_at hl 2 rfl) ?_
        refine fold_i (show b = nI (b.toNatClampNeg) from c2a.1) ?_
        refine lv_iconst (v := 5) hx hb dX8_sensorOf_32 (by decide) ?_
        refine lv_isub hx hb dX8_sensorOf_33 ?_
        refine lv_aload_n hx hb dX8_sensorOf_34 rfl (lv_at hl 0 rfl) ?_
        refine lv_iload_n hx hb dX8_sensorOf_35 rfl (lv_at hl 1 rfl) ?_
        refine fold_i (show a = nI (a.toNatClampNeg) from c1a.1) ?_
        refine lv_iconst (v := 1) hx hb dX8_sensorOf_36 (by decide) ?_
        refine c_iR hw (run_V (As := [.int (nI (a.toNatClampNeg)), .int 1]) (rest := [.int ((nI (b.toNatClampNeg)) - 5)]) (np := 2) hf hw (kn_X8_of l E _  a.toNatClampNeg 1  (show a.toNatClampNeg < 6 from c1ab) (show 1 < 29 from (by decide))) ⟨gl_V q227 q228 q229 q5 q230, by decide +kernel⟩ ⟨rfl, rfl, Nat.le_of_ble_eq_true rfl, Nat.le_of_ble_eq_true rfl⟩ (by decide) (c_R E _) rfl rfl hl.1 rfl (Nat.le_of_ble_eq_true rfl) dX8_sensorOf_37 ⟨Nat.zero_le _, Nat.zero_le _⟩) (fun H locs hw => ?_)
        have hb9 := ((hI).2.2.2 _ c1ab).2.2.2
        refine fold_i (show μ.1 8 (85 + 29 * a.toNatClampNeg + 1) = nI ((μ.1 8 (85 + 29 * a.toNatClampNeg + 1)).toNatClampNeg) from ((hI).2.2.2 _ c1ab).2.2.1) ?_
        refine lv_icmp_ge (tgt := 60) hx hb dX8_sensorOf_40 (by decide) (fun c10 => ?_) (fun c10 => ?_)
        · refine lv_iconst (v := 1) hx hb dX8_sensorOf_60 (by decide) ?_
          refine lv_goto (tgt := 65) hx hb dX8_sensorOf_61 (by decide) ?_
          refine lv_istore_n (lv' := [(3, .int 1), (0, .ref (E.1 (232))), (1, .int (a)), (2, .int (b))]) hx hb dX8_sensorOf_65 rfl hl (by decide) rfl (fun ls hl => ?_)
          refine lv_iload_n hx hb dX8_sensorOf_66 rfl (lv_at hl 0 rfl) ?_
          refine lv_if_eq (tgt := 75) hx hb dX8_sensorOf_67 (by decide) (fun c => absurd c (by decide)) (fun _ => ?_)
          refine lv_ldc hx hb hf.2.2.2.1 (hf.2.2.2.2 _ q242) dX8_sensorOf_70 ?_
          refine lv_goto (tgt := 81) hx hb dX8_sensorOf_72 (by decide) ?_
          exact e_i hf hr hlocks hw rfl (congrArg (fun z => (z, μ)) ((if_pos c1).trans ((if_pos c2).trans ((if_pos c3).trans ((if_pos c10).trans rfl))))) dX8_sensorOf_81
        · refine lv_iload_n hx hb dX8_sensorOf_43 rfl (lv_at hl 2 rfl) ?_
          refine fold_i (show b = nI (b.toNatClampNeg) from c2a.1) ?_
          refine lv_bipush (v := 13) hx hb dX8_sensorOf_44 (by decide) ?_
          refine lv_icmp_ne (tgt := 64) hx hb dX8_sensorOf_46 (by decide) (fun c12 => ?_) (fun c12 => ?_)
          · have c12n : ¬ (b.toNatClampNeg) = 13 := by have q := (nI_eq (a := (b.toNatClampNeg)) (b := 13) (by omega) (by omega)); first | exact q.mp c12 | exact fun z => c12 (q.mpr z)
            refine lv_iconst (v := 0) hx hb dX8_sensorOf_64 (by decide) ?_
            refine lv_istore_n (lv' := [(3, .int 0), (0, .ref (E.1 (232))), (1, .int (a)), (2, .int (b))]) hx hb dX8_sensorOf_65 rfl hl (by decide) rfl (fun ls hl => ?_)
            refine lv_iload_n hx hb dX8_sensorOf_66 rfl (lv_at hl 0 rfl) ?_
            refine lv_if_eq (tgt := 75) hx hb dX8_sensorOf_67 (by decide) (fun _ => ?_) (fun c => absurd c (by decide))
            refine lv_aload_n hx hb dX8_sensorOf_75 rfl (lv_at hl 1 rfl) ?_
            refine lv_iload_n hx hb dX8_sensorOf_76 rfl (lv_at hl 2 rfl) ?_
            refine fold_i (show a = nI (a.toNatClampNeg) from c1a.1) ?_
            refine lv_iload_n hx hb dX8_sensorOf_77 rfl (lv_at hl 3 rfl) ?_
            refine fold_i (show b = nI (b.toNatClampNeg) from c2a.1) ?_
            refine c_iR hw (run_V (As := [.int (nI (a.toNatClampNeg)), .int (nI (b.toNatClampNeg))]) (rest := []) (np := 2) hf hw (kn_X8_of l E _  a.toNatClampNeg b.toNatClampNeg  (show a.toNatClampNeg < 6 from c1ab) (show b.toNatClampNeg < 29 from (by omega))) ⟨gl_V q227 q228 q229 q5 q230, by decide +kernel⟩ ⟨rfl, rfl, Nat.le_of_ble_eq_true rfl, Nat.le_of_ble_eq_true rfl⟩ (by decide) (c_R E _) rfl rfl hl.1 rfl (Nat.le_of_ble_eq_true rfl) dX8_sensorOf_78 ⟨Nat.zero_le _, Nat.zero_le _⟩) (fun H locs hw => ?_)
            exact e_i hf hr hlocks hw rfl (congrArg (fun z => (z, μ)) ((if_pos c1).trans ((if_pos c2).trans ((if_pos c3).trans ((if_neg c10).trans ((if_neg c12).trans rfl)))))) dX8_sensorOf_81
          · have c12n : (b.toNatClampNeg) = 13 := by have q := (nI_eq (a := (b.toNatClampNeg)) (b := 13) (by omega) (by omega)); first | exact q.mp c12 | exact fun z => c12 (q.mpr z)
            refine lv_aload_n hx hb dX8_sensorOf_49 rfl (lv_at hl 0 rfl) ?_
            refine lv_iload_n hx hb dX8_sensorOf_50 rfl (lv_at hl 1 rfl) ?_
            refine fold_i (show a = nI (a.toNatClampNeg) from c1a.1) ?_
            refine lv_bipush (v := 13) hx hb dX8_sensorOf_51 (by decide) ?_
            refine c_iR hw (run_V (As := [.int (nI (a.toNatClampNeg)), .int 13]) (rest := []) (np := 2) hf hw (kn_X8_of l E _  a.toNatClampNeg 13  (show a.toNatClampNeg < 6 from c1ab) (show 13 < 29 from (by decide))) ⟨gl_V q227 q228 q229 q5 q230, by decide +kernel⟩ ⟨rfl, rfl, Nat.le_of_ble_eq_true rfl, Nat.le_of_ble_eq_true rfl⟩ (by decide) (c_R E _) rfl rfl hl.1 rfl (Nat.le_of_ble_eq_true rfl) dX8_sensorOf_53 ⟨Nat.zero_le _, Nat.zero_le _⟩) (fun H locs hw => ?_)
            refine lv_iconst (v := (-1)) hx hb dX8_sensorOf_56 (by decide) ?_
            refine lv_icmp_ne (tgt := 64) hx hb dX8_sensorOf_57 (by decide) (fun c14 => ?_) (fun c14 => ?_)
            · refine lv_iconst (v := 0) hx hb dX8_sensorOf_64 (by decide) ?_
              refine lv_istore_n (lv' := [(3, .int 0), (0, .ref (E.1 (232))), (1, .int (a)), (2, .int (b))]) hx hb dX8_sensorOf_65 rfl hl (by decide) rfl (fun ls hl => ?_)
              refine lv_iload_n hx hb dX8_sensorOf_66 rfl (lv_at hl 0 rfl) ?_
              refine lv_if_eq (tgt := 75) hx hb dX8_sensorOf_67 (by decide) (fun _ => ?_) (fun c => absurd c (by decide))
              refine lv_aload_n hx hb dX8_sensorOf_75 rfl (lv_at hl 1 rfl) ?_
              refine lv_iload_n hx hb dX8_sensorOf_76 rfl (lv_at hl 2 rfl) ?_
              refine fold_i (show a = nI (a.toNatClampNeg) from c1a.1) ?_
              refine lv_iload_n hx hb dX8_sensorOf_77 rfl (lv_at hl 3 rfl) ?_
              refine fold_i (show b = nI (b.toNatClampNeg) from c2a.1) ?_
              refine c_iR hw (run_V (As := [.int (nI (a.toNatClampNeg)), .int (nI (b.toNatClampNeg))]) (rest := []) (np := 2) hf hw (kn_X8_of l E _  a.toNatClampNeg b.toNatClampNeg  (show a.toNatClampNeg < 6 from c1ab) (show b.toNatClampNeg < 29 from (by omega))) ⟨gl_V q227 q228 q229 q5 q230, by decide +kernel⟩ ⟨rfl, rfl, Nat.le_of_ble_eq_true rfl, Nat.le_of_ble_eq_true rfl⟩ (by decide) (c_R E _) rfl rfl hl.1 rfl (Nat.le_of_ble_eq_true rfl) dX8_sensorOf_78 ⟨Nat.zero_le _, Nat.zero_le _⟩) (fun H locs hw => ?_)
              exact e_i hf hr hlocks hw rfl (congrArg (fun z => (z, μ)) ((if_pos c1).trans ((if_pos c2).trans ((if_pos c3).trans ((if_neg c10).trans ((if_pos c12).trans ((if_neg c14).trans rfl))))))) dX8_sensorOf_81
            · refine lv_iconst (v := 1) hx hb dX8_sensorOf_60 (by decide) ?_
              refine lv_goto (tgt := 65) hx hb dX8_sensorOf_61 (by decide) ?_
              refine lv_istore_n (lv' := [(3, .int 1), (0, .ref (E.1 (232))), (1, .int (a)), (2, .int (b))]) hx hb dX8_sensorOf_65 rfl hl (by decide) rfl (fun ls hl => ?_)
              refine lv_iload_n hx hb dX8_sensorOf_66 rfl (lv_at hl 0 rfl) ?_
              refine lv_if_eq (tgt := 75) hx hb dX8_sensorOf_67 (by decide) (fun c => absurd c (by decide)) (fun _ => ?_)
              refine lv_ldc hx hb hf.2.2.2.1 (hf.2.2.2.2 _ q242) dX8_sensorOf_70 ?_
              refine lv_goto (tgt := 81) hx hb dX8_sensorOf_72 (by decide) ?_
              exact e_i hf hr hlocks hw rfl (congrArg (fun z => (z, μ)) ((if_pos c1).trans ((if_pos c2).trans ((if_pos c3).trans ((if_neg c10).trans ((if_pos c12).trans ((if_pos c14).trans rfl))))))) dX8_sensorOf_81
    · replace c2 := (bz_0 _).mp c2
      refine lv_ldc hx hb hf.2.2.2.1 (hf.2.2.2.2 _ q154) dX8_sensorOf_18 ?_
      exact e_i hf hr hlocks hw rfl (congrArg (fun z => (z, μ)) ((if_pos c1).trans ((if_neg c2).trans rfl))) dX8_sensorOf_20
def sp_X8_table (μ : Mu)   : Int32 × Mu :=
  if (nI ((μ.1 8 0).toNatClampNeg) : Int32) = 3 then
    ((-2000000003), μ)
  else
    ((sp_X8_acted (pM (pM (pC μ 11 0 8 0 259) 8 (10 + 25 * ((μ.1 8 0).toNatClampNeg)) (0 : Int32)) 8 0 (nI ((μ.1 8 0).toNatClampNeg + 1)))  ((nI ((μ.1 8 0).toNatClampNeg + 1)) - 1)).1, (sp_X8_acted (pM (pM (pC μ 11 0 8 0 259) 8 (10 + 25 * ((μ.1 8 0).toNatClampNeg)) (0 : Int32)) 8 0 (nI ((μ.1 8 0).toNatClampNeg + 1)))  ((nI ((μ.1 8 0).toNatClampNeg + 1)) - 1)).2)
set_option maxHeartbeats 4000000 in
set_option maxRecDepth 100000 in
theorem k_X8_table (l : Launch) (E : En) (μ : Mu)   (hI : RI (μ.1 8)) (hst : ni 5 (μ.1 7 0)) : MtI l yX8_table cX8_table 1 .int ({ frames := 1, cells := 0, slots := 0, locals := 22 }) [.ref (E.1 (232))] E μ (sp_X8_table μ ) := by
  refine mt_of (by decide +kernel) (Nat.le_of_ble_eq_true rfl) ?_
  intro p e s m args below meth c ls hf hr hlocks hl hw
  have hx := hf.1
  have hb := hf.2.1
  have hl : lv_has ls 1 [(0, .ref (E.1 (232)))] := hl
  refine lv_aload_n hx hb dX8_table_0 rfl (lv_at hl 0 rfl) ?_
  refine g_f hw hf (by decide) (c_R E _) rfl inlX8 0 (by decide) rfl q90 rfl dX8_table_1 ?_
  refine lv_iconst (v := 0) hx hb dX8_table_4 (by decide) ?_
  refine g_a hw hf (by decide) (c_Rs E _) (vp_lit 0 259 (by decide) (by decide)) (tr_at (y := 0) (by decide) (by decide)) dX8_table_5 ?_
  have hb1 := (hI).1.2
  refine fold_i (show μ.1 8 0 = nI ((μ.1 8 0).toNatClampNeg) from (hI).1.1) ?_
  refine lv_iconst (v := 3) hx hb dX8_table_6 (by decide) ?_
  refine lv_icmp_ne (tgt := 13) hx hb dX8_table_7 (by decide) (fun c2 => ?_) (fun c2 => ?_)
  · have c2n : ¬ ((μ.1 8 0).toNatClampNeg) = 3 := by have q := (nI_eq (a := ((μ.1 8 0).toNatClampNeg)) (b := 3) (by omega) (by omega)); first | exact q.mp c2 | exact fun z => c2 (q.mpr z)
    refine lv_aload_n hx hb dX8_table_13 rfl (lv_at hl 0 rfl) ?_
    refine c_v hw (run_V (As := []) (rest := []) (np := 0) hf hw (kn_X8_keeps l E _    ) ⟨gl_V q146 q147 q148 q5 q149, by decide +kernel⟩ ⟨rfl, rfl, Nat.le_of_ble_eq_true rfl, Nat.le_of_ble_eq_true rfl⟩ (by decide) (c_R E _) rfl rfl hl.1 rfl (Nat.le_of_ble_eq_true rfl) dX8_table_14 ⟨Nat.zero_le _, Nat.zero_le _⟩) (fun H locs hw => ?_)
    refine lv_aload_n hx hb dX8_table_17 rfl (lv_at hl 0 rfl) ?_
    refine g_f hw hf (by decide) (c_R E _) rfl inlX8 0 (by decide) rfl q90 rfl dX8_table_18 ?_
    refine lv_bipush (v := 10) hx hb dX8_table_21 (by decide) ?_
    refine lv_bipush (v := 25) hx hb dX8_table_23 (by decide) ?_
    refine lv_aload_n hx hb dX8_table_25 rfl (lv_at hl 0 rfl) ?_
    refine g_f hw hf (by decide) (c_R E _) rfl inlX8 0 (by decide) rfl q90 rfl dX8_table_26 ?_
    refine lv_iconst (v := 0) hx hb dX8_table_29 (by decide) ?_
    refine g_a hw hf (by decide) (c_Rs E _) (vp_lit 0 259 (by decide) (by decide)) ((tr_at (y := 0) (by decide) (by decide)).trans (show _ = μ.1 8 0 from (by first | (simp [pM, pJ, upM, upJ, sF, tN, tD, tR, tk_M, tk_K, tk_0, tk_1, tk_2, tk_3, tk_4, tk_5, tk_6, tk_7, tk_8, tk_9, tk_10, tk_o, ms_0_0, ms_0_1, ms_0_2, ms_0_3, ms_0_4, ms_0_5, ms_0_6, ms_0_7, ms_0_8, ms_0_9, ms_0_10, ms_1_0, ms_1_1, ms_1_2, ms_1_3, ms_1_4, ms_1_5, ms_1_6, ms_1_7, ms_1_8, ms_1_9, ms_1_10, ms_w, ms_r, ms_d, ms_M, ms_6, ms_K, pC_row]; done) | (simp (disch := (first | omega | (simp only [tN, tD, tR, sF]; omega))) only [pM, pJ, upM_s, upM_k, upM_c, upJ_s, upJ_k, upJ_c, tk_M, tk_K, tk_0, tk_1, tk_2, tk_3, tk_4, tk_5, tk_6, tk_7, tk_8, tk_9, tk_10, tk_o, ms_0_0, ms_0_1, ms_0_2, ms_0_3, ms_0_4, ms_0_5, ms_0_6, ms_0_7, ms_0_8, ms_0_9, ms_0_10, ms_1_0, ms_1_1, ms_1_2, ms_1_3, ms_1_4, ms_1_5, ms_1_6, ms_1_7, ms_1_8, ms_1_9, ms_1_10, ms_w, ms_r, ms_d, ms_M, ms_6, ms_K, pC_row])))) dX8_table_30 ?_
    refine fold_i (show μ.1 8 0 = nI ((μ.1 8 0).toNatClampNeg) from (hI).1.1) ?_
    refine lv_imul hx hb dX8_table_31 ?_
    refine fold_i (show (25 : Int32) * nI ((μ.1 8 0).toNatClampNeg) = nI (25 * ((μ.1 8 0).toNatClampNeg)) from pk_mul (25) ((μ.1 8 0).toNatClampNeg)) ?_
    refine lv_iadd hx hb dX8_table_32 ?_
    refine fold_i (show (10 : Int32) + nI (25 * ((μ.1 8 0).toNatClampNeg)) = nI (10 + 25 * ((μ.1 8 0).toNatClampNeg)) from nI_add (10) (25 * ((μ.1 8 0).toNatClampNeg))) ?_
    refine lv_iconst (v := 0) hx hb dX8_table_33 (by decide) ?_
    refine p_a hw hf (by decide) (c_Rs E _) (vp_in_nI (show 10 + 25 * ((μ.1 8 0).toNatClampNeg) < 259 from (by omega)) (by decide)) (by rw [show (nI (10 + 25 * ((μ.1 8 0).toNatClampNeg))).toNatClampNeg = 10 + 25 * ((μ.1 8 0).toNatClampNeg) from (nI_clamp (Nat.lt_trans (show 10 + 25 * ((μ.1 8 0).toNatClampNeg) < 259 from (by omega)) (by decide)))]; exact (s_Rs E _ (by omega) _)) dX8_table_34 (fun H locs hw => ?_)
    refine lv_aload_n hx hb dX8_table_35 rfl (lv_at hl 0 rfl) ?_
    refine g_f hw hf (by decide) (c_R E _) rfl inlX8 0 (by decide) rfl q90 rfl dX8_table_36 ?_
    refine lv_iconst (v := 0) hx hb dX8_table_39 (by decide) ?_
    refine lv_dup2_11 hx hb dX8_table_40 rfl rfl ?_
    refine g_a hw hf (by decide) (c_Rs E _) (vp_lit 0 259 (by decide) (by decide)) ((tr_at (y := 0) (by decide) (by decide)).trans (show _ = μ.1 8 0 from (by first | (simp [pM, pJ, upM, upJ, sF, tN, tD, tR, tk_M, tk_K, tk_0, tk_1, tk_2, tk_3, tk_4, tk_5, tk_6, tk_7, tk_8, tk_9, tk_10, tk_o, ms_0_0, ms_0_1, ms_0_2, ms_0_3, ms_0_4, ms_0_5, ms_0_6, ms_0_7, ms_0_8, ms_0_9, ms_0_10, ms_1_0, ms_1_1, ms_1_2, ms_1_3, ms_1_4, ms_1_5, ms_1_6, ms_1_7, ms_1_8, ms_1_9, ms_1_10, ms_w, ms_r, ms_d, ms_M, ms_6, ms_K, pC_row]; done) | (simp (disch := (first | omega | (simp only [tN, tD, tR, sF]; omega))) only [pM, pJ, upM_s, upM_k, upM_c, upJ_s, upJ_k, upJ_c, tk_M, tk_K, tk_0, tk_1, tk_2, tk_3, tk_4, tk_5, tk_6, tk_7, tk_8, tk_9, tk_10, tk_o, ms_0_0, ms_0_1, ms_0_2, ms_0_3, ms_0_4, ms_0_5, ms_0_6, ms_0_7, ms_0_8, ms_0_9, ms_0_10, ms_1_0, ms_1_1, ms_1_2, ms_1_3, ms_1_4, ms_1_5, ms_1_6, ms_1_7, ms_1_8, ms_1_9, ms_1_10, ms_w, ms_r, ms_d, ms_M, ms_6, ms_K, pC_row])))) dX8_table_41 ?_
    refine fold_i (show μ.1 8 0 = nI ((μ.1 8 0).toNatClampNeg) from (hI).1.1) ?_
    refine lv_iconst (v := 1) hx hb dX8_table_42 (by decide) ?_
    refine lv_iadd hx hb dX8_table_43 ?_
    refine fold_i (show nI ((μ.1 8 0).toNatClampNeg) + (1 : Int32) = nI ((μ.1 8 0).toNatClampNeg + 1) from nI_add ((μ.1 8 0).toNatClampNeg) (1)) ?_
    refine p_a hw hf (by decide) (c_Rs E _) (vp_lit 0 259 (by decide) (by decide)) (by rw [show (0 : Int32).toNatClampNeg = 0 from (by decide)]; exact (s_Rs E _ (by decide) _)) dX8_table_44 (fun H locs hw => ?_)
    refine lv_aload_n hx hb dX8_table_45 rfl (lv_at hl 0 rfl) ?_
    refine lv_aload_n hx hb dX8_table_46 rfl (lv_at hl 0 rfl) ?_
    refine g_f hw hf (by decide) (c_R E _) rfl inlX8 0 (by decide) rfl q90 rfl dX8_table_47 ?_
    refine lv_iconst (v := 0) hx hb dX8_table_50 (by decide) ?_
    refine g_a hw hf (by decide) (c_Rs E _) (vp_lit 0 259 (by decide) (by decide)) ((tr_at (y := 0) (by decide) (by decide)).trans (show _ = nI ((μ.1 8 0).toNatClampNeg + 1) from (by first | (simp [pM, pJ, upM, upJ, sF, tN, tD, tR, tk_M, tk_K, tk_0, tk_1, tk_2, tk_3, tk_4, tk_5, tk_6, tk_7, tk_8, tk_9, tk_10, tk_o, ms_0_0, ms_0_1, ms_0_2, ms_0_3, ms_0_4, ms_0_5, ms_0_6, ms_0_7, ms_0_8, ms_0_9, ms_0_10, ms_1_0, ms_1_1, ms_1_2, ms_1_3, ms_1_4, ms_1_5, ms_1_6, ms_1_7, ms_1_8, ms_1_9, ms_1_10, ms_w, ms_r, ms_d, ms_M, ms_6, ms_K, pC_row]; done) | (simp (disch := (first | omega | (simp only [tN, tD, tR, sF]; omega))) only [pM, pJ, upM_s, upM_k, upM_c, upJ_s, upJ_k, upJ_c, tk_M, tk_K, tk_0, tk_1, tk_2, tk_3, tk_4, tk_5, tk_6, tk_7, tk_8, tk_9, tk_10, tk_o, ms_0_0, ms_0_1, ms_0_2, ms_0_3, ms_0_4, ms_0_5, ms_0_6, ms_0_7, ms_0_8, ms_0_9, ms_0_10, ms_1_0, ms_1_1, ms_1_2, ms_1_3, ms_1_4, ms_1_5, ms_1_6, ms_1_7, ms_1_8, ms_1_9, ms_1_10, ms_w, ms_r, ms_d, ms_M, ms_6, ms_K, pC_row])))) dX8_table_51 ?_
    refine lv_iconst (v := 1) hx hb dX8_table_52 (by decide) ?_
    refine lv_isub hx hb dX8_table_53 ?_
    refine c_i hw (run_V (As := [.int ((nI ((μ.1 8 0).toNatClampNeg + 1)) - 1)]) (rest := []) (np := 1) hf hw (k_X8_acted l E _  ((nI ((μ.1 8 0).toNatClampNeg + 1)) - 1)  (s7_ni (x := μ.1 7 0) (s7_pM (by decide) (s7_pM (by decide) (s7_pC (by decide) (rfl : S7 (μ.1 7 0) μ)))) hst)) ⟨gl_V q150 q151 q152 q5 q153, by decide +kernel⟩ ⟨rfl, rfl, Nat.le_of_ble_eq_true rfl, Nat.le_of_ble_eq_true rfl⟩ (by decide) (c_R E _) rfl rfl hl.1 rfl (Nat.le_of_ble_eq_true rfl) dX8_table_54 ⟨Nat.zero_le _, Nat.zero_le _⟩) (fun H locs hw => ?_)
    exact e_i hf hr hlocks hw rfl ((if_neg c2).trans rfl) dX8_table_57
  · have c2n : ((μ.1 8 0).toNatClampNeg) = 3 := by have q := (nI_eq (a := ((μ.1 8 0).toNatClampNeg)) (b := 3) (by omega) (by omega)); first | exact q.mp c2 | exact fun z => c2 (q.mpr z)
    refine lv_ldc hx hb hf.2.2.2.1 (hf.2.2.2.2 _ q145) dX8_table_10 ?_
    exact e_i hf hr hlocks hw rfl ((if_pos c2).trans rfl) dX8_table_12
def sp_X8_ratio (g : Nat → Int32)  (a : Int32) (b : Int32) : Int32 :=
  if 0 ≤ a ∧ a ≤ (g 0) - 1 then
    if (-200000) ≤ b ∧ b ≤ 850000 then
      if 2 ≤ rN g a.toNatClampNeg ∧ (g (11 + 25 * a.toNatClampNeg + 0)) ≤ b ∧ b ≤ rL g a.toNatClampNeg then
        sp_X8_ratioAt g  a.toNatClampNeg b
      else
        (-2000000004)
    else
      (-2000000001)
  else
    (-2000000001)
set_option maxHeartbeats 4000000 in
set_option maxRecDepth 100000 in
theorem k_X8_ratio (l : Launch) (E : En) (μ : Mu)  (a : Int32) (b : Int32) (hI : RI (μ.1 8)) (hT3 : ∀ t, t < 3 → RT (μ.1 8) t) : MtI l yX8_ratio cX8_ratio 3 .int ({ frames := 3, cells := 0, slots := 0, locals := 65 }) [.ref (E.1 (232)), .int (a), .int (b)] E μ ((sp_X8_ratio (μ.1 8) a b), μ) := by
  refine mt_of (by decide +kernel) (Nat.le_of_ble_eq_true rfl) ?_
  intro p e s m args below meth c ls hf hr hlocks hl hw
  have hx := hf.1
  have hb := hf.2.1
  have hl : lv_has ls 3 [(0, .ref (E.1 (232))), (1, .int (a)), (2, .int (b))] := hl
  refine lv_aload_n hx hb dX8_ratio_0 rfl (lv_at hl 0 rfl) ?_
  refine lv_iload_n hx hb dX8_ratio_1 rfl (lv_at hl 1 rfl) ?_
  refine c_iR hw (run_V (As := [.int (a)]) (rest := []) (np := 1) hf hw (kn_X8_isTable l E _  a  ) ⟨gl_V q203 q204 q205 q5 q206, by decide +kernel⟩ ⟨rfl, rfl, Nat.le_of_ble_eq_true rfl, Nat.le_of_ble_eq_true rfl⟩ (by decide) (c_R E _) rfl rfl hl.1 rfl (Nat.le_of_ble_eq_true rfl) dX8_ratio_2 ⟨Nat.zero_le _, Nat.zero_le _⟩) (fun H locs hw => ?_)
  refine lv_if_eq (tgt := 15) hx hb dX8_ratio_5 (by decide) (fun c1 => ?_) (fun c1 => ?_)
  · replace c1 := (bz_0 _).mp c1
    refine lv_ldc hx hb hf.2.2.2.1 (hf.2.2.2.2 _ q154) dX8_ratio_15 ?_
    exact e_i hf hr hlocks hw rfl (congrArg (fun z => (z, μ)) ((if_neg c1).trans rfl)) dX8_ratio_17
  · replace c1 := (bz_n0 _).mp c1
    have c1a := (ni_of hI.1 (by decide) c1)
    have c1ab : a.toNatClampNeg < 3 := Nat.lt_of_lt_of_le c1a.2 (Nat.le_of_lt_succ hI.1.2)
    refine lv_iload_n hx hb dX8_ratio_8 rfl (lv_at hl 2 rfl) ?_
    refine c_iR hw (run_S (As := [.int (b)]) (rest := []) (np := 1) hf hw (kn_X8_isDegree l E _  b  ) ⟨gl_S q210 q211 q5 q212, by decide +kernel⟩ ⟨rfl, rfl, Nat.le_of_ble_eq_true rfl, Nat.le_of_ble_eq_true rfl⟩ rfl hl.1 rfl (Nat.le_of_ble_eq_true rfl) dX8_ratio_9 ⟨Nat.zero_le _, Nat.zero_le _⟩) (fun H locs hw => ?_)
    refine lv_if_ne (tgt := 18) hx hb dX8_ratio_12 (by decide) (fun c2 => ?_) (fun c2 => ?_)
    · replace c2 := (bz_n0 _).mp c2
      refine lv_aload_n hx hb dX8_ratio_18 rfl (lv_at hl 0 rfl) ?_
      refine lv_iload_n hx hb dX8_ratio_19 rfl (lv_at hl 1 rfl) ?_
      refine fold_i (show a = nI (a.toNatClampNeg) from c1a.1) ?_
      refine lv_iload_n hx hb dX8_ratio_20 rfl (lv_at hl 2 rfl) ?_
      refine c_iR hw (run_V (As := [.int (nI (a.toNatClampNeg)), .int (b)]) (rest := []) (np := 2) hf hw (kn_X8_goes l E _  a.toNatClampNeg b  (show a.toNatClampNeg < 3 from c1ab) hI) ⟨gl_V q259 q260 q261 q5 q262, by decide +kernel⟩ ⟨rfl, rfl, Nat.le_of_ble_eq_true rfl, Nat.le_of_ble_eq_true rfl⟩ (by decide) (c_R E _) rfl rfl hl.1 rfl (Nat.le_of_ble_eq_true rfl) dX8_ratio_21 ⟨Nat.zero_le _, Nat.zero_le _⟩) (fun H locs hw => ?_)
      refine lv_if_eq (tgt := 36) hx hb dX8_ratio_24 (by decide) (fun c3 => ?_) (fun c3 => ?_)
      · replace c3 := (bz_0 _).mp c3
        refine lv_ldc hx hb hf.2.2.2.1 (hf.2.2.2.2 _ q242) dX8_ratio_36 ?_
        exact e_i hf hr hlocks hw rfl (congrArg (fun z => (z, μ)) ((if_pos c1).trans ((if_pos c2).trans ((if_neg c3).trans rfl)))) dX8_ratio_38
      · replace c3 := (bz_n0 _).mp c3
        refine lv_aload_n hx hb dX8_ratio_27 rfl (lv_at hl 0 rfl) ?_
        refine lv_iload_n hx hb dX8_ratio_28 rfl (lv_at hl 1 rfl) ?_
        refine fold_i (show a = nI (a.toNatClampNeg) from c1a.1) ?_
        refine lv_iload_n hx hb dX8_ratio_29 rfl (lv_at hl 2 rfl) ?_
        refine c_iR hw (run_V (As := [.int (nI (a.toNatClampNeg)), .int (b)]) (rest := []) (np := 2) hf hw (k_X8_ratioAt l E _  a.toNatClampNeg b  (show a.toNatClampNeg < 3 from c1ab) hI (hT3 _ c1ab) c3.1 c3.2.2) ⟨gl_V q271 q272 q273 q5 q274, by decide +kernel⟩ ⟨rfl, rfl, Nat.le_of_ble_eq_true rfl, Nat.le_of_ble_eq_true rfl⟩ (by decide) (c_R E _) rfl rfl hl.1 rfl (Nat.le_of_ble_eq_true rfl) dX8_ratio_30 ⟨Nat.zero_le _, Nat.zero_le _⟩) (fun H locs hw => ?_)
        refine lv_goto (tgt := 38) hx hb dX8_ratio_33 (by decide) ?_
        exact e_i hf hr hlocks hw rfl (congrArg (fun z => (z, μ)) ((if_pos c1).trans ((if_pos c2).trans ((if_pos c3).trans rfl)))) dX8_ratio_38
    · replace c2 := (bz_0 _).mp c2
      refine lv_ldc hx hb hf.2.2.2.1 (hf.2.2.2.2 _ q154) dX8_ratio_15 ?_
      exact e_i hf hr hlocks hw rfl (congrArg (fun z => (z, μ)) ((if_pos c1).trans ((if_neg c2).trans rfl))) dX8_ratio_17
def sp_X8_inverse (g : Nat → Int32)  (a : Int32) (b : Int32) : Int32 :=
  if 0 ≤ a ∧ a ≤ (g 0) - 1 then
    if (1 : Int32) ≤ b ∧ b ≤ (10000000 : Int32) then
      sp_X8_inverseOf g  a.toNatClampNeg (b.toInt64)
    else
      (-2000000001)
  else
    (-2000000001)
set_option maxHeartbeats 4000000 in
set_option maxRecDepth 100000 in
theorem k_X8_inverse (l : Launch) (E : En) (μ : Mu)  (a : Int32) (b : Int32) (hI : RI (μ.1 8)) (hT3 : ∀ t, t < 3 → RT (μ.1 8) t) : MtI l yX8_inverse cX8_inverse 3 .int ({ frames := 3, cells := 0, slots := 0, locals := 73 }) [.ref (E.1 (232)), .int (a), .int (b)] E μ ((sp_X8_inverse (μ.1 8) a b), μ) := by
  refine mt_of (by decide +kernel) (Nat.le_of_ble_eq_true rfl) ?_
  intro p e s m args below meth c ls hf hr hlocks hl hw
  have hx := hf.1
  have hb := hf.2.1
  have hl : lv_has ls 3 [(0, .ref (E.1 (232))), (1, .int (a)), (2, .int (b))] := hl
  refine lv_aload_n hx hb dX8_inverse_0 rfl (lv_at hl 0 rfl) ?_
  refine lv_iload_n hx hb dX8_inverse_1 rfl (lv_at hl 1 rfl) ?_
  refine c_iR hw (run_V (As := [.int (a)]) (rest := []) (np := 1) hf hw (kn_X8_isTable l E _  a  ) ⟨gl_V q203 q204 q205 q5 q206, by decide +kernel⟩ ⟨rfl, rfl, Nat.le_of_ble_eq_true rfl, Nat.le_of_ble_eq_true rfl⟩ (by decide) (c_R E _) rfl rfl hl.1 rfl (Nat.le_of_ble_eq_true rfl) dX8_inverse_2 ⟨Nat.zero_le _, Nat.zero_le _⟩) (fun H locs hw => ?_)
  refine lv_if_eq (tgt := 28) hx hb dX8_inverse_5 (by decide) (fun c1 => ?_) (fun c1 => ?_)
  · replace c1 := (bz_0 _).mp c1
    refine lv_ldc hx hb hf.2.2.2.1 (hf.2.2.2.2 _ q154) dX8_inverse_28 ?_
    exact e_i hf hr hlocks hw rfl (congrArg (fun z => (z, μ)) ((if_neg c1).trans rfl)) dX8_inverse_30
  · replace c1 := (bz_n0 _).mp c1
    have c1a := (ni_of hI.1 (by decide) c1)
    have c1ab : a.toNatClampNeg < 3 := Nat.lt_of_lt_of_le c1a.2 (Nat.le_of_lt_succ hI.1.2)
    refine lv_iload_n hx hb dX8_inverse_8 rfl (lv_at hl 2 rfl) ?_
    refine lv_iconst (v := 1) hx hb dX8_inverse_9 (by decide) ?_
    refine lv_ldc hx hb hf.2.2.2.1 (hf.2.2.2.2 _ q201) dX8_inverse_10 ?_
    refine c_iR hw (run_S (As := [.int (b), .int 1, .int 10000000]) (rest := []) (np := 3) hf hw (kn_X8_in l E _  b (1 : Int32) (10000000 : Int32)  ) ⟨gl_S q207 q208 q5 q209, by decide +kernel⟩ ⟨rfl, rfl, Nat.le_of_ble_eq_true rfl, Nat.le_of_ble_eq_true rfl⟩ rfl hl.1 rfl (Nat.le_of_ble_eq_true rfl) dX8_inverse_12 ⟨Nat.zero_le _, Nat.zero_le _⟩) (fun H locs hw => ?_)
    refine lv_if_eq (tgt := 28) hx hb dX8_inverse_15 (by decide) (fun c2 => ?_) (fun c2 => ?_)
    · replace c2 := (bz_0 _).mp c2
      refine lv_ldc hx hb hf.2.2.2.1 (hf.2.2.2.2 _ q154) dX8_inverse_28 ?_
      exact e_i hf hr hlocks hw rfl (congrArg (fun z => (z, μ)) ((if_pos c1).trans ((if_neg c2).trans rfl))) dX8_inverse_30
    · replace c2 := (bz_n0 _).mp c2
      refine lv_aload_n hx hb dX8_inverse_18 rfl (lv_at hl 0 rfl) ?_
      refine lv_iload_n hx hb dX8_inverse_19 rfl (lv_at hl 1 rfl) ?_
      refine fold_i (show a = nI (a.toNatClampNeg) from c1a.1) ?_
      refine lv_iload_n hx hb dX8_inverse_20 rfl (lv_at hl 2 rfl) ?_
      refine lv_i2l hx hb dX8_inverse_21 rfl ?_
      refine c_iR hw (run_V (As := [.int (nI (a.toNatClampNeg)), .long (b.toInt64)]) (rest := []) (np := 2) hf hw (k_X8_inverseOf l E _  a.toNatClampNeg (b.toInt64)  (show a.toNatClampNeg < 3 from c1ab) hI (hT3 _ c1ab)) ⟨gl_V q289 q290 q291 q5 q292, by decide +kernel⟩ ⟨rfl, rfl, Nat.le_of_ble_eq_true rfl, Nat.le_of_ble_eq_true rfl⟩ (by decide) (c_R E _) rfl rfl hl.1 rfl (Nat.le_of_ble_eq_true rfl) dX8_inverse_22 ⟨Nat.zero_le _, Nat.zero_le _⟩) (fun H locs hw => ?_)
      refine lv_goto (tgt := 30) hx hb dX8_inverse_25 (by decide) ?_
      exact e_i hf hr hlocks hw rfl (congrArg (fun z => (z, μ)) ((if_pos c1).trans ((if_pos c2).trans rfl))) dX8_inverse_30
def sp_X8_plug (μ : Mu)  (a : Int32) (b : Int32) (w : Int32) : Int32 × Mu :=
  if 0 ≤ a ∧ a ≤ (μ.1 8 1) - 1 then
    if (0 : Int32) ≤ b ∧ b ≤ (3 : Int32) then
      if (0 : Int32) ≤ w ∧ w ≤ (2 : Int32) then
        if ((μ.1 8 (85 + 29 * a.toNatClampNeg + 13)) : Int32) = (-1) then
          if (sp_X8_inside (μ.1 8)  (nI (10 * b.toNatClampNeg + w.toNatClampNeg)) : Int32) = (-1) then
            if (3 : Int32) ≤ nI (b.toNatClampNeg) then
              if (sp_X8_inside ((pM μ 8 (85 + 29 * a.toNatClampNeg + 13) ((nI (10 * b.toNatClampNeg + w.toNatClampNeg)))).1 8)  (nI (10 * b.toNatClampNeg + 0)) : Int32) = (-1) then
                if (sp_X8_inside ((pM μ 8 (85 + 29 * a.toNatClampNeg + 13) ((nI (10 * b.toNatClampNeg + w.toNatClampNeg)))).1 8)  (nI (10 * b.toNatClampNeg + 1)) : Int32) = (-1) then
                  if (sp_X8_inside ((pM μ 8 (85 + 29 * a.toNatClampNeg + 13) ((nI (10 * b.toNatClampNeg + w.toNatClampNeg)))).1 8)  (nI (10 * b.toNatClampNeg + 2)) : Int32) = (-1) then
                    ((sp_X8_acted (pM (pC μ 11 0 8 0 259) 8 (85 + 29 * a.toNatClampNeg + 13) (nI (10 * b.toNatClampNeg + w.toNatClampNeg)))  (0 : Int32)).1, (sp_X8_acted (pM (pC μ 11 0 8 0 259) 8 (85 + 29 * a.toNatClampNeg + 13) (nI (10 * b.toNatClampNeg + w.toNatClampNeg)))  (0 : Int32)).2)
                  else
                    ((sp_X8_acted (pM (pC μ 11 0 8 0 259) 8 (85 + 29 * a.toNatClampNeg + 13) (nI (10 * b.toNatClampNeg + w.toNatClampNeg)))  (1 : Int32)).1, (sp_X8_acted (pM (pC μ 11 0 8 0 259) 8 (85 + 29 * a.toNatClampNeg + 13) (nI (10 * b.toNatClampNeg + w.toNatClampNeg)))  (1 : Int32)).2)
                else
                  if (sp_X8_inside ((pM μ 8 (85 + 29 * a.toNatClampNeg + 13) ((nI (10 * b.toNatClampNeg + w.toNatClampNeg)))).1 8)  (nI (10 * b.toNatClampNeg + 2)) : Int32) = (-1) then
                    ((sp_X8_acted (pM (pC μ 11 0 8 0 259) 8 (85 + 29 * a.toNatClampNeg + 13) (nI (10 * b.toNatClampNeg + w.toNatClampNeg)))  (1 : Int32)).1, (sp_X8_acted (pM (pC μ 11 0 8 0 259) 8 (85 + 29 * a.toNatClampNeg + 13) (nI (10 * b.toNatClampNeg + w.toNatClampNeg)))  (1 : Int32)).2)
                  else
                    ((sp_X8_acted (pM (pC μ 11 0 8 0 259) 8 (85 + 29 * a.toNatClampNeg + 13) (nI (10 * b.toNatClampNeg + w.toNatClampNeg)))  (2 : Int32)).1, (sp_X8_acted (pM (pC μ 11 0 8 0 259) 8 (85 + 29 * a.toNatClampNeg + 13) (nI (10 * b.toNatClampNeg + w.toNatClampNeg)))  (2 : Int32)).2)
              else
                if (sp_X8_inside ((pM μ 8 (85 + 29 * a.toNatClampNeg + 13) ((nI (10 * b.toNatClampNeg + w.toNatClampNeg)))).1 8)  (nI (10 * b.toNatClampNeg + 1)) : Int32) = (-1) then
                  if (sp_X8_inside ((pM μ 8 (85 + 29 * a.toNatClampNeg + 13) ((nI (10 * b.toNatClampNeg + w.toNatClampNeg)))).1 8)  (nI (10 * b.toNatClampNeg + 2)) : Int32) = (-1) then
                    ((sp_X8_acted (pM (pC μ 11 0 8 0 259) 8 (85 + 29 * a.toNatClampNeg + 13) (nI (10 * b.toNatClampNeg + w.toNatClampNeg)))  (1 : Int32)).1, (sp_X8_acted (pM (pC μ 11 0 8 0 259) 8 (85 + 29 * a.toNatClampNeg + 13) (nI (10 * b.toNatClampNeg + w.toNatClampNeg)))  (1 : Int32)).2)
                  else
                    ((sp_X8_acted (pM (pC μ 11 0 8 0 259) 8 (85 + 29 * a.toNatClampNeg + 13) (nI (10 * b.toNatClampNeg + w.toNatClampNeg)))  (2 : Int32)).1, (sp_X8_acted (pM (pC μ 11 0 8 0 259) 8 (85 + 29 * a.toNatClampNeg + 13) (nI (10 * b.toNatClampNeg + w.toNatClampNeg)))  (2 : Int32)).2)
                else
                  if (sp_X8_inside ((pM μ 8 (85 + 29 * a.toNatClampNeg + 13) ((nI (10 * b.toNatClampNeg + w.toNatClampNeg)))).1 8)  (nI (10 * b.toNatClampNeg + 2)) : Int32) = (-1) then
                    ((sp_X8_acted (pM (pC μ 11 0 8 0 259) 8 (85 + 29 * a.toNatClampNeg + 13) (nI (10 * b.toNatClampNeg + w.toNatClampNeg)))  (2 : Int32)).1, (sp_X8_acted (pM (pC μ 11 0 8 0 259) 8 (85 + 29 * a.toNatClampNeg + 13) (nI (10 * b.toNatClampNeg + w.toNatClampNeg)))  (2 : Int32)).2)
                  else
                    ((sp_X8_acted (pM (pC μ 11 0 8 0 259) 8 (85 + 29 * a.toNatClampNeg + 13) (nI (10 * b.toNatClampNeg + w.toNatClampNeg)))  (3 : Int32)).1, (sp_X8_acted (pM (pC μ 11 0 8 0 259) 8 (85 + 29 * a.toNatClampNeg + 13) (nI (10 * b.toNatClampNeg + w.toNatClampNeg)))  (3 : Int32)).2)
            else
              if (nI ((μ.1 8 (85 + 29 * a.toNatClampNeg + 1)).toNatClampNeg) : Int32) = nI (b.toNatClampNeg + 2) then
                if (sp_X8_inside ((pM μ 8 (85 + 29 * a.toNatClampNeg + 13) ((nI (10 * b.toNatClampNeg + w.toNatClampNeg)))).1 8)  (nI (10 * b.toNatClampNeg + 0)) : Int32) = (-1) then
                  if (sp_X8_inside ((pM μ 8 (85 + 29 * a.toNatClampNeg + 13) ((nI (10 * b.toNatClampNeg + w.toNatClampNeg)))).1 8)  (nI (10 * b.toNatClampNeg + 1)) : Int32) = (-1) then
                    if (sp_X8_inside ((pM μ 8 (85 + 29 * a.toNatClampNeg + 13) ((nI (10 * b.toNatClampNeg + w.toNatClampNeg)))).1 8)  (nI (10 * b.toNatClampNeg + 2)) : Int32) = (-1) then
                      ((sp_X8_acted (pM (pC μ 11 0 8 0 259) 8 (85 + 29 * a.toNatClampNeg + 13) (nI (10 * b.toNatClampNeg + w.toNatClampNeg)))  (0 : Int32)).1, (sp_X8_acted (pM (pC μ 11 0 8 0 259) 8 (85 + 29 * a.toNatClampNeg + 13) (nI (10 * b.toNatClampNeg + w.toNatClampNeg)))  (0 : Int32)).2)
                    else
                      ((sp_X8_acted (pM (pC μ 11 0 8 0 259) 8 (85 + 29 * a.toNatClampNeg + 13) (nI (10 * b.toNatClampNeg + w.toNatClampNeg)))  (1 : Int32)).1, (sp_X8_acted (pM (pC μ 11 0 8 0 259) 8 (85 + 29 * a.toNatClampNeg + 13) (nI (10 * b.toNatClampNeg + w.toNatClampNeg)))  (1 : Int32)).2)
                  else
                    if (sp_X8_inside ((pM μ 8 (85 + 29 * a.toNatClampNeg + 13) ((nI (10 * b.toNatClampNeg + w.toNatClampNeg)))).1 8)  (nI (10 * b.toNatClampNeg + 2)) : Int32) = (-1) then
                      ((sp_X8_acted (pM (pC μ 11 0 8 0 259) 8 (85 + 29 * a.toNatClampNeg + 13) (nI (10 * b.toNatClampNeg + w.toNatClampNeg)))  (1 : Int32)).1, (sp_X8_acted (pM (pC μ 11 0 8 0 259) 8 (85 + 29 * a.toNatClampNeg + 13) (nI (10 * b.toNatClampNeg + w.toNatClampNeg)))  (1 : Int32)).2)
                    else
                      ((sp_X8_acted (pM (pC μ 11 0 8 0 259) 8 (85 + 29 * a.toNatClampNeg + 13) (nI (10 * b.toNatClampNeg + w.toNatClampNeg)))  (2 : Int32)).1, (sp_X8_acted (pM (pC μ 11 0 8 0 259) 8 (85 + 29 * a.toNatClampNeg + 13) (nI (10 * b.toNatClampNeg + w.toNatClampNeg)))  (2 : Int32)).2)
                else
                  if (sp_X8_inside ((pM μ 8 (85 + 29 * a.toNatClampNeg + 13) ((nI (10 * b.toNatClampNeg + w.toNatClampNeg)))).1 8)  (nI (10 * b.toNatClampNeg + 1)) : Int32) = (-1) then
                    if (sp_X8_inside ((pM μ 8 (85 + 29 * a.toNatClampNeg + 13) ((nI (10 * b.toNatClampNeg + w.toNatClampNeg)))).1 8)  (nI (10 * b.toNatClampNeg + 2)) : Int32) = (-1) then
                      ((sp_X8_acted (pM (pC μ 11 0 8 0 259) 8 (85 + 29 * a.toNatClampNeg + 13) (nI (10 * b.toNatClampNeg + w.toNatClampNeg)))  (1 : Int32)).1, (sp_X8_acted (pM (pC μ 11 0 8 0 259) 8 (85 + 29 * a.toNatClampNeg + 13) (nI (10 * b.toNatClampNeg + w.toNatClampNeg)))  (1 : Int32)).2)
                    else
                      ((sp_X8_acted (pM (pC μ 11 0 8 0 259) 8 (85 + 29 * a.toNatClampNeg + 13) (nI (10 * b.toNatClampNeg + w.toNatClampNeg)))  (2 : Int32)).1, (sp_X8_acted (pM (pC μ 11 0 8 0 259) 8 (85 + 29 * a.toNatClampNeg + 13) (nI (10 * b.toNatClampNeg + w.toNatClampNeg)))  (2 : Int32)).2)
                  else
                    if (sp_X8_inside ((pM μ 8 (85 + 29 * a.toNatClampNeg + 13) ((nI (10 * b.toNatClampNeg + w.toNatClampNeg)))).1 8)  (nI (10 * b.toNatClampNeg + 2)) : Int32) = (-1) then
                      ((sp_X8_acted (pM (pC μ 11 0 8 0 259) 8 (85 + 29 * a.toNatClampNeg + 13) (nI (10 * b.toNatClampNeg + w.toNatClampNeg)))  (2 : Int32)).1, (sp_X8_acted (pM (pC μ 11 0 8 0 259) 8 (85 + 29 * a.toNatClampNeg + 13) (nI (10 * b.toNatClampNeg + w.toNatClampNeg)))  (2 : Int32)).2)
                    else
                      ((sp_X8_acted (pM (pC μ 11 0 8 0 259) 8 (85 + 29 * a.toNatClampNeg + 13) (nI (10 * b.toNatClampNeg + w.toNatClampNeg)))  (3 : Int32)).1, (sp_X8_acted (pM (pC μ 11 0 8 0 259) 8 (85 + 29 * a.toNatClampNeg + 13) (nI (10 * b.toNatClampNeg + w.toNatClampNeg)))  (3 : Int32)).2)
              else
                ((-2000000002), μ)
          else
            ((-2000000002), μ)
        else
          ((-2000000002), μ)
      else
        ((-2000000001), μ)
    else
      ((-2000000001), μ)
  else
    ((-2000000001), μ)
set_option maxHeartbeats 4000000 in
set_option maxRecDepth 100000 in
theorem k_X8_plug (l : Launch) (E : En) (μ : Mu)  (a : Int32) (b : Int32) (w : Int32) (hI : RI (μ.1 8)) (hst : ni 5 (μ.1 7 0)) : MtI l yX8_plug cX8_plug 6 .int ({ frames := 2, cells := 0, slots := 0, locals := 44 }) [.ref (E.1 (232)), .int (a), .int (b), .int (w)] E μ (sp_X8_plug μ a b w) := by
  refine mt_of (by decide +kernel) (Nat.le_of_ble_eq_true rfl) ?_
  intro p e s m args below meth c ls hf hr hlocks hl hw
  have hx := hf.1
  have hb := hf.2.1
  have hl : lv_has ls 6 [(0, .ref (E.1 (232))), (1, .int (a)), (2, .int (b)), (3, .int (w))] := hl
  refine lv_aload_n hx hb dX8_plug_0 rfl (lv_at hl 0 rfl) ?_
  refine lv_iload_n hx hb dX8_plug_1 rfl (lv_at hl 1 rfl) ?_
  refine c_iR hw (run_V (As := [.int (a)]) (rest := []) (np := 1) hf hw (kn_X8_isSensor l E _  a  ) ⟨gl_V q370 q371 q372 q5 q373, by decide +kernel⟩ ⟨rfl, rfl, Nat.le_of_ble_eq_true rfl, Nat.le_of_ble_eq_true rfl⟩ (by decide) (c_R E _) rfl rfl hl.1 rfl (Nat.le_of_ble_eq_true rfl) dX8_plug_2 ⟨Nat.zero_le _, Nat.zero_le _⟩) (fun H locs hw => ?_)
  refine lv_if_eq (tgt := 26) hx hb dX8_plug_5 (by decide) (fun c1 => ?_) (fun c1 => ?_)
  · replace c1 := (bz_0 _).mp c1
    refine lv_ldc hx hb hf.2.2.2.1 (hf.2.2.2.2 _ q154) dX8_plug_26 ?_
    exact e_i hf hr hlocks hw rfl ((if_neg c1).trans rfl) dX8_plug_28
  · replace c1 := (bz_n0 _).mp c1
    have c1a := (ni_of hI.2.1 (by decide) c1)
    have c1ab : a.toNatClampNeg < 6 := Nat.lt_of_lt_of_le c1a.2 (Nat.le_of_lt_succ hI.2.1.2)
    refine lv_iload_n hx hb dX8_plug_8 rfl (lv_at hl 2 rfl) ?_
    refine lv_iconst (v := 0) hx hb dX8_plug_9 (by decide) ?_
    refine lv_iconst (v := 3) hx hb dX8_plug_10 (by decide) ?_
    refine c_iR hw (run_S (As := [.int (b), .int 0, .int 3]) (rest := []) (np := 3) hf hw (kn_X8_in l E _  b (0 : Int32) (3 : Int32)  ) ⟨gl_S q207 q208 q5 q209, by decide +kernel⟩ ⟨rfl, rfl, Nat.le_of_ble_eq_true rfl, Nat.le_of_ble_eq_true rfl⟩ rfl hl.1 rfl (Nat.le_of_ble_eq_true rfl) dX8_plug_11 ⟨Nat.zero_le _, Nat.zero_le _⟩) (fun H locs hw => ?_)
    refine lv_if_eq (tgt := 26) hx hb dX8_plug_14 (by decide) (fun c2 => ?_) (fun c2 => ?_)
    · replace c2 := (bz_0 _).mp c2
      refine lv_ldc hx hb hf.2.2.2.1 (hf.2.2.2.2 _ q154) dX8_plug_26 ?_
      exact e_i hf hr hlocks hw rfl ((if_pos c1).trans ((if_neg c2).trans rfl)) dX8_plug_28
    · replace c2 := (bz_n0 _).mp c2
      have c2a := (na_lit 3 rfl (by decide) c2)
      have c2ab : b.toNatClampNeg < 4 := c2a.2
      refine lv_iload_n hx hb dX8_plug_17 rfl (lv_at hl 3 rfl) ?_
      refine lv_iconst (v := 0) hx hb dX8_plug_18 (by decide) ?_
      refine lv_iconst (v := 2) hx hb dX8_plug_19 (by decide) ?_
      refine c_iR hw (run_S (As := [.int (w), .int 0, .int 2]) (rest := []) (np := 3) hf hw (kn_X8_in l E _  w (0 : Int32) (2 : Int32)  ) ⟨gl_S q207 q208 q5 q209, by decide +kernel⟩ ⟨rfl, rfl, Nat.le_of_ble_eq_true rfl, Nat.le_of_ble_eq_true rfl⟩ rfl hl.1 rfl (Nat.le_of_ble_eq_true rfl) dX8_plug_20 ⟨Nat.zero_le _, Nat.zero_le _⟩) (fun H locs hw => ?_)
      refine lv_if_ne (tgt := 29) hx hb dX8_plug_23 (by decide) (fun c3 => ?_) (fun c3 => ?_)
      · replace c3 := (bz_n0 _).mp c3
        have c3a := (na_lit 2 rfl (by decide) c3)
        have c3ab : w.toNatClampNeg < 3 := c3a.2
        refine lv_aload_n hx hb dX8_plug_29 rfl (lv_at hl 0 rfl) ?_
        refine lv_iload_n hx hb dX8_plug_30 rfl (lv_at hl 1 rfl) ?_
        refine fold_i (show a = nI (a.toNatClampNeg) from c1a.1) ?_
        refine lv_bipush (v := 13) hx hb dX8_plug_31 (by decide) ?_
        refine c_iR hw (run_V (As := [.int (nI (a.toNatClampNeg)), .int 13]) (rest := []) (np := 2) hf hw (kn_X8_of l E _  a.toNatClampNeg 13  (show a.toNatClampNeg < 6 from c1ab) (show 13 < 29 from (by decide))) ⟨gl_V q227 q228 q229 q5 q230, by decide +kernel⟩ ⟨rfl, rfl, Nat.le_of_ble_eq_true rfl, Nat.le_of_ble_eq_true rfl⟩ (by decide) (c_R E _) rfl rfl hl.1 rfl (Nat.le_of_ble_eq_true rfl) dX8_plug_33 ⟨Nat.zero_le _, Nat.zero_le _⟩) (fun H locs hw => ?_)
        refine lv_iconst (v := (-1)) hx hb dX8_plug_36 (by decide) ?_
        refine lv_icmp_ne (tgt := 71) hx hb dX8_plug_37 (by decide) (fun c4 => ?_) (fun c4 => ?_)
        · refine lv_ldc hx hb hf.2.2.2.1 (hf.2.2.2.2 _ q202) dX8_plug_71 ?_
          exact e_i hf hr hlocks hw rfl ((if_pos c1).trans ((if_pos c2).trans ((if_pos c3).trans ((if_neg c4).trans rfl)))) dX8_plug_73
        · refine lv_aload_n hx hb dX8_plug_40 rfl (lv_at hl 0 rfl) ?_
          refine lv_bipush (v := 10) hx hb dX8_plug_41 (by decide) ?_
          refine lv_iload_n hx hb dX8_plug_43 rfl (lv_at hl 2 rfl) ?_
          refine fold_i (show b = nI (b.toNatClampNeg) from c2a.1) ?_
          refine lv_imul hx hb dX8_plug_44 ?_
          refine fold_i (show (10 : Int32) * nI (b.toNatClampNeg) = nI (10 * b.toNatClampNeg) from pk_mul (10) (b.toNatClampNeg)) ?_
          refine lv_iload_n hx hb dX8_plug_45 rfl (lv_at hl 3 rfl) ?_
          refine fold_i (show w = nI (w.toNatClampNeg) from c3a.1) ?_
          refine lv_iadd hx hb dX8_plug_46 ?_
          refine fold_i (show nI (10 * b.toNatClampNeg) + nI (w.toNatClampNeg) = nI (10 * b.toNatClampNeg + w.toNatClampNeg) from nI_add (10 * b.toNatClampNeg) (w.toNatClampNeg)) ?_
          refine c_iR hw (run_V (As := [.int (nI (10 * b.toNatClampNeg + w.toNatClampNeg))]) (rest := []) (np := 1) hf hw (k_X8_inside l E _  (nI (10 * b.toNatClampNeg + w.toNatClampNeg))  hI.2.1) ⟨gl_V q374 q375 q376 q5 q377, by decide +kernel⟩ ⟨rfl, rfl, Nat.le_of_ble_eq_true rfl, Nat.le_of_ble_eq_true rfl⟩ (by decide) (c_R E _) rfl rfl hl.1 rfl (Nat.le_of_ble_eq_true rfl) dX8_plug_47 ⟨Nat.zero_le _, Nat.zero_le _⟩) (fun H locs hw => ?_)
          refine lv_iconst (v := (-1)) hx hb dX8_plug_50 (by decide) ?_
          refine lv_icmp_ne (tgt := 71) hx hb dX8_plug_51 (by decide) (fun c5 => ?_) (fun c5 => ?_)
          · refine lv_ldc hx hb hf.2.2.2.1 (hf.2.2.2.2 _ q202) dX8_plug_71 ?_
            exact e_i hf hr hlocks hw rfl ((if_pos c1).trans ((if_pos c2).trans ((if_pos c3).trans ((if_pos c4).trans ((if_neg c5).trans rfl))))) dX8_plug_73
          · refine lv_iload_n hx hb dX8_plug_54 rfl (lv_at hl 2 rfl) ?_
            refine fold_i (show b = nI (b.toNatClampNeg) from c2a.1) ?_
            refine lv_iconst (v := 3) hx hb dX8_plug_55 (by decide) ?_
            refine lv_icmp_ge (tgt := 74) hx hb dX8_plug_56 (by decide) (fun c6 => ?_) (fun c6 => ?_)
            · have c6n : 3 ≤ (b.toNatClampNeg) := by have q := (nI_leI (a := 3) (b := (b.toNatClampNeg)) (by omega) (by omega)); first | exact q.mp c6 | exact fun z => c6 (q.mpr z)
              refine lv_aload_n hx hb dX8_plug_74 rfl (lv_at hl 0 rfl) ?_
              refine c_v hw (run_V (As := []) (rest := []) (np := 0) hf hw (kn_X8_keeps l E _    ) ⟨gl_V q146 q147 q148 q5 q149, by decide +kernel⟩ ⟨rfl, rfl, Nat.le_of_ble_eq_true rfl, Nat.le_of_ble_eq_true rfl⟩ (by decide) (c_R E _) rfl rfl hl.1 rfl (Nat.le_of_ble_eq_true rfl) dX8_plug_75 ⟨Nat.zero_le _, Nat.zero_le _⟩) (fun H locs hw => ?_)
              refine lv_aload_n hx hb dX8_plug_78 rfl (lv_at hl 0 rfl) ?_
              refine lv_iload_n hx hb dX8_plug_79 rfl (lv_at hl 1 rfl) ?_
              refine fold_i (show a = nI (a.toNatClampNeg) from c1a.1) ?_
              refine lv_bipush (v := 13) hx hb dX8_plug_80 (by decide) ?_
              refine lv_bipush (v := 10) hx hb dX8_plug_82 (by decide) ?_
              refine lv_iload_n hx hb dX8_plug_84 rfl (lv_at hl 2 rfl) ?_
              refine fold_i (show b = nI (b.toNatClampNeg) from c2a.1) ?_
              refine lv_imul hx hb dX8_plug_85 ?_
              refine fold_i (show (10 : Int32) * nI (b.toNatClampNeg) = nI (10 * b.toNatClampNeg) from pk_mul (10) (b.toNatClampNeg)) ?_
              refine lv_iload_n hx hb dX8_plug_86 rfl (lv_at hl 3 rfl) ?_
              refine fold_i (show w = nI (w.toNatClampNeg) from c3a.1) ?_
              refine lv_iadd hx hb dX8_plug_87 ?_
              refine fold_i (show nI (10 * b.toNatClampNeg) + nI (w.toNatClampNeg) = nI (10 * b.toNatClampNeg + w.toNatClampNeg) from nI_add (10 * b.toNatClampNeg) (w.toNatClampNeg)) ?_
              refine c_v hw (run_V (As := [.int (nI (a.toNatClampNeg)), .int 13, .int (nI (10 * b.toNatClampNeg + w.toNatClampNeg))]) (rest := []) (np := 3) hf hw (kn_X8_put l E _  a.toNatClampNeg 13 (nI (10 * b.toNatClampNeg + w.toNatClampNeg))  (show a.toNatClampNeg < 6 from c1ab) (show 13 < 29 from (by decide))) ⟨gl_V q335 q336 q337 q5 q338, by decide +kernel⟩ ⟨rfl, rfl, Nat.le_of_ble_eq_true rfl, Nat.le_of_ble_eq_true rfl⟩ (by decide) (c_R E _) rfl rfl hl.1 rfl (Nat.le_of_ble_eq_true rfl) dX8_plug_88 ⟨Nat.zero_le _, Nat.zero_le _⟩) (fun H locs hw => ?_)
              refine lv_iconst (v := 0) hx hb dX8_plug_91 (by decide) ?_
              refine lv_istore (lv' := [(4, .int 0), (0, .ref (E.1 (232))), (1, .int (a)), (2, .int (b)), (3, .int (w))]) hx hb dX8_plug_92 hl (by decide) rfl (fun ls hl => ?_)
              refine lv_iconst (v := 0) hx hb dX8_plug_94 (by decide) ?_
              refine lv_istore (lv' := [(5, .int 0), (4, .int 0), (0, .ref (E.1 (232))), (1, .int (a)), (2, .int (b)), (3, .int (w))]) hx hb dX8_plug_95 hl (by decide) rfl (fun ls hl => ?_)
              refine lv_iload hx hb dX8_plug_97 (lv_at hl 0 rfl) ?_
              refine lv_iconst (v := 3) hx hb dX8_plug_99 (by decide) ?_
              refine lv_icmp_ge (tgt := 134) hx hb dX8_plug_100 (by decide) (fun c => absurd c (by decide)) (fun _ => ?_)
              refine lv_iload hx hb dX8_plug_103 (lv_at hl 1 rfl) ?_
              refine lv_aload_n hx hb dX8_plug_105 rfl (lv_at hl 2 rfl) ?_
              refine lv_bipush (v := 10) hx hb dX8_plug_106 (by decide) ?_
              refine lv_iload_n hx hb dX8_plug_108 rfl (lv_at hl 4 rfl) ?_
              refine fold_i (show b = nI (b.toNatClampNeg) from c2a.1) ?_
              refine lv_imul hx hb dX8_plug_109 ?_
              refine fold_i (show (10 : Int32) * nI (b.toNatClampNeg) = nI (10 * b.toNatClampNeg) from pk_mul (10) (b.toNatClampNeg)) ?_
              refine lv_iload hx hb dX8_plug_110 (lv_at hl 0 rfl) ?_
              refine lv_iadd hx hb dX8_plug_112 ?_
              refine fold_i (show nI (10 * b.toNatClampNeg) + (0 : Int32) = nI (10 * b.toNatClampNeg + 0) from nI_add (10 * b.toNatClampNeg) (0)) ?_
              refine c_iR hw (run_V (As := [.int (nI (10 * b.toNatClampNeg + 0))]) (rest := [.int 0]) (np := 1) hf hw (k_X8_inside l E _  (nI (10 * b.toNatClampNeg + 0))  (cast_ni (show _ = μ.1 8 1 from (by first | (simp [pM, pJ, upM, upJ, sF, tN, tD, tR, tk_M, tk_K, tk_0, tk_1, tk_2, tk_3, tk_4, tk_5, tk_6, tk_7, tk_8, tk_9, tk_10, tk_o, ms_0_0, ms_0_1, ms_0_2, ms_0_3, ms_0_4, ms_0_5, ms_0_6, ms_0_7, ms_0_8, ms_0_9, ms_0_10, ms_1_0, ms_1_1, ms_1_2, ms_1_3, ms_1_4, ms_1_5, ms_1_6, ms_1_7, ms_1_8, ms_1_9, ms_1_10, ms_w, ms_r, ms_d, ms_M, ms_6, ms_K, pC_row]; done) | (simp (disch := (first | omega | (simp only [tN, tD, tR, sF]; omega))) only [pM, pJ, upM_s, upM_k, upM_c, upJ_s, upJ_k, upJ_c, tk_M, tk_K, tk_0, tk_1, tk_2, tk_3, tk_4, tk_5, tk_6, tk_7, tk_8, tk_9, tk_10, tk_o, ms_0_0, ms_0_1, ms_0_2, ms_0_3, ms_0_4, ms_0_5, ms_0_6, ms_0_7, ms_0_8, ms_0_9, ms_0_10, ms_1_0, ms_1_1, ms_1_2, ms_1_3, ms_1_4, ms_1_5, ms_1_6, ms_1_7, ms_1_8, ms_1_9, ms_1_10, ms_w, ms_r, ms_d, ms_M, ms_6, ms_K, pC_row]))) hI.2.1)) ⟨gl_V q374 q375 q376 q5 q377, by decide +kernel⟩ ⟨rfl, rfl, Nat.le_of_ble_eq_true rfl, Nat.le_of_ble_eq_true rfl⟩ (by decide) (c_R E _) rfl rfl hl.1 rfl (Nat.le_of_ble_eq_true rfl) dX8_plug_113 ⟨Nat.zero_le _, Nat.zero_le _⟩) (fun H locs hw => ?_)
              refine fold_i (y := sp_X8_inside ((pM μ 8 (85 + 29 * a.toNatClampNeg + 13) ((nI (10 * b.toNatClampNeg + w.toNatClampNeg)))).1 8)  (nI (10 * b.toNatClampNeg + 0))) (by first | rfl | (simp [pM, pJ, upM_r, upM_rr, tk_M, tk_K, tk_0, tk_1, tk_2, tk_3, tk_4, tk_5, tk_6, tk_7, tk_8, tk_9, tk_10, tk_o, ms_0_0, ms_0_1, ms_0_2, ms_0_3, ms_0_4, ms_0_5, ms_0_6, ms_0_7, ms_0_8, ms_0_9, ms_0_10, ms_1_0, ms_1_1, ms_1_2, ms_1_3, ms_1_4, ms_1_5, ms_1_6, ms_1_7, ms_1_8, ms_1_9, ms_1_10, ms_w, ms_r, ms_d, ms_M, ms_6, ms_K, pC_row]; done)) ?_
              refine lv_iconst (v := (-1)) hx hb dX8_plug_116 (by decide) ?_
              refine lv_icmp_ne (tgt := 124) hx hb dX8_plug_117 (by decide) (fun c8 => ?_) (fun c8 => ?_)
              · refine lv_iconst (v := 1) hx hb dX8_plug_124 (by decide) ?_
                refine lv_iadd hx hb dX8_plug_125 ?_
                refine fold_i (show (0 + 1 : Int32) = 1 from by decide) ?_
                refine lv_istore (lv' := [(4, .int 1), (5, .int 0), (0, .ref (E.1 (232))), (1, .int (a)), (2, .int (b)), (3, .int (w))]) hx hb dX8_plug_126 hl (by decide) rfl (fun ls hl => ?_)
                refine lv_iinc (v := 1) (lv' := [(5, .int 1), (4, .int 1), (0, .ref (E.1 (232))), (1, .int (a)), (2, .int (b)), (3, .int (w))]) hx hb dX8_plug_128 hl (k := 1) rfl (by decide) (by decide) rfl (fun ls hl => ?_)
                refine lv_goto (tgt := 97) hx hb dX8_plug_131 (by decide) ?_
                refine lv_iload hx hb dX8_plug_97 (lv_at hl 0 rfl) ?_
                refine lv_iconst (v := 3) hx hb dX8_plug_99 (by decide) ?_
                refine lv_icmp_ge (tgt := 134) hx hb dX8_plug_100 (by decide) (fun c => absurd c (by decide)) (fun _ => ?_)
                refine lv_iload hx hb dX8_plug_103 (lv_at hl 1 rfl) ?_
                refine lv_aload_n hx hb dX8_plug_105 rfl (lv_at hl 2 rfl) ?_
                refine lv_bipush (v := 10) hx hb dX8_plug_106 (by decide) ?_
                refine lv_iload_n hx hb dX8_plug_108 rfl (lv_at hl 4 rfl) ?_
                refine fold_i (show b = nI (b.toNatClampNeg) from c2a.1) ?_
                refine lv_imul hx hb dX8_plug_109 ?_
                refine fold_i (show (10 : Int32) * nI (b.toNatClampNeg) = nI (10 * b.toNatClampNeg) from pk_mul (10) (b.toNatClampNeg)) ?_
                refine lv_iload hx hb dX8_plug_110 (lv_at hl 0 rfl) ?_
                refine lv_iadd hx hb dX8_plug_112 ?_
                refine fold_i (show nI (10 * b.toNatClampNeg) + (1 : Int32) = nI (10 * b.toNatClampNeg + 1) from nI_add (10 * b.toNatClampNeg) (1)) ?_
                refine c_iR hw (run_V (As := [.int (nI (10 * b.toNatClampNeg + 1))]) (rest := [.int 1]) (np := 1) hf hw (k_X8_inside l E _  (nI (10 * b.toNatClampNeg + 1))  (cast_ni (show _ = μ.1 8 1 from (by first | (simp [pM, pJ, upM, upJ, sF, tN, tD, tR, tk_M, tk_K, tk_0, tk_1, tk_2, tk_3, tk_4, tk_5, tk_6, tk_7, tk_8, tk_9, tk_10, tk_o, ms_0_0, ms_0_1, ms_0_2, ms_0_3, ms_0_4, ms_0_5, ms_0_6, ms_0_7, ms_0_8, ms_0_9, ms_0_10, ms_1_0, ms_1_1, ms_1_2, ms_1_3, ms_1_4, ms_1_5, ms_1_6, ms_1_7, ms_1_8, ms_1_9, ms_1_10, ms_w, ms_r, ms_d, ms_M, ms_6, ms_K, pC_row]; done) | (simp (disch := (first | omega | (simp only [tN, tD, tR, sF]; omega))) only [pM, pJ, upM_s, upM_k, upM_c, upJ_s, upJ_k, upJ_c, tk_M, tk_K, tk_0, tk_1, tk_2, tk_3, tk_4, tk_5, tk_6, tk_7, tk_8, tk_9, tk_10, tk_o, ms_0_0, ms_0_1, ms_0_2, ms_0_3, ms_0_4, ms_0_5, ms_0_6, ms_0_7, ms_0_8, ms_0_9, ms_0_10, ms_1_0, ms_1_1, ms_1_2, ms_1_3, ms_1_4, ms_1_5, ms_1_6, ms_1_7, ms_1_8, ms_1_9, ms_1_10, ms_w, ms_r, ms_d, ms_M, ms_6, ms_K, pC_row]))) hI.2.1)) ⟨gl_V q374 q375 q376 q5 q377, by decide +kernel⟩ ⟨rfl, rfl, Nat.le_of_ble_eq_true rfl, Nat.le_of_ble_eq_true rfl⟩ (by decide) (c_R E _) rfl rfl hl.1 rfl (Nat.le_of_ble_eq_true rfl) dX8_plug_113 ⟨Nat.zero_le _, Nat.zero_le _⟩) (fun H locs hw => ?_)
                refine fold_i (y := sp_X8_inside ((pM μ 8 (85 + 29 * a.toNatClampNeg + 13) ((nI (10 * b.toNatClampNeg + w.toNatClampNeg)))).1 8)  (nI (10 * b.toNatClampNeg + 1))) (by first | rfl | (simp [pM, pJ, upM_r, upM_rr, tk_M, tk_K, tk_0, tk_1, tk_2, tk_3, tk_4, tk_5, tk_6, tk_7, tk_8, tk_9, tk_10, tk_o, ms_0_0, ms_0_1, ms_0_2, ms_0_3, ms_0_4, ms_0_5, ms_0_6, ms_0_7, ms_0_8, ms_0_9, ms_0_10, ms_1_0, ms_1_1, ms_1_2, ms_1_3, ms_1_4, ms_1_5, ms_1_6, ms_1_7, ms_1_8, ms_1_9, ms_1_10, ms_w, ms_r, ms_d, ms_M, ms_6, ms_K, pC_row]; done)) ?_
                refine lv_iconst (v := (-1)) hx hb dX8_plug_116 (by decide) ?_
                refine lv_icmp_ne (tgt := 124) hx hb dX8_plug_117 (by decide) (fun c10 => ?_) (fun c10 => ?_)
                · refine lv_iconst (v := 1) hx hb dX8_plug_124 (by decide) ?_
                  refine lv_iadd hx hb dX8_plug_125 ?_
                  refine fold_i (show (1 + 1 : Int32) = 2 from by decide) ?_
                  refine lv_istore (lv' := [(4, .int 2), (5, .int 1), (0, .ref (E.1 (232))), (1, .int (a)), (2, .int (b)), (3, .int (w))]) hx hb dX8_plug_126 hl (by decide) rfl (fun ls hl => ?_)
                  refine lv_iinc (v := 2) (lv' := [(5, .int 2), (4, .int 2), (0, .ref (E.1 (232))), (1, .int (a)), (2, .int (b)), (3, .int (w))]) hx hb dX8_plug_128 hl (k := 1) rfl (by decide) (by decide) rfl (fun ls hl => ?_)
                  refine lv_goto (tgt := 97) hx hb dX8_plug_131 (by decide) ?_
                  refine lv_iload hx hb dX8_plug_97 (lv_at hl 0 rfl) ?_
                  refine lv_iconst (v := 3) hx hb dX8_plug_99 (by decide) ?_
                  refine lv_icmp_ge (tgt := 134) hx hb dX8_plug_100 (by decide) (fun c => absurd c (by decide)) (fun _ => ?_)
                  refine lv_iload hx hb dX8_plug_103 (lv_at hl 1 rfl) ?_
                  refine lv_aload_n hx hb dX8_plug_105 rfl (lv_at hl 2 rfl) ?_
                  refine lv_bipush (v := 10) hx hb dX8_plug_106 (by decide) ?_
                  refine lv_iload_n hx hb dX8_plug_108 rfl (lv_at hl 4 rfl) ?_
                  refine fold_i (show b = nI (b.toNatClampNeg) from c2a.1) ?_
                  refine lv_imul hx hb dX8_plug_109 ?_
                  refine fold_i (show (10 : Int32) * nI (b.toNatClampNeg) = nI (10 * b.toNatClampNeg) from pk_mul (10) (b.toNatClampNeg)) ?_
                  refine lv_iload hx hb dX8_plug_110 (lv_at hl 0 rfl) ?_
                  refine lv_iadd hx hb dX8_plug_112 ?_
                  refine fold_i (show nI (10 * b.toNatClampNeg) + (2 : Int32) = nI (10 * b.toNatClampNeg + 2) from nI_add (10 * b.toNatClampNeg) (2)) ?_
                  refine c_iR hw (run_V (As := [.int (nI (10 * b.toNatClampNeg + 2))]) (rest := [.int 2]) (np := 1) hf hw (k_X8_inside l E _  (nI (10 * b.toNatClampNeg + 2))  (cast_ni (show _ = μ.1 8 1 from (by first | (simp [pM, pJ, upM, upJ, sF, tN, tD, tR, tk_M, tk_K, tk_0, tk_1, tk_2, tk_3, tk_4, tk_5, tk_6, tk_7, tk_8, tk_9, tk_10, tk_o, ms_0_0, ms_0_1, ms_0_2, ms_0_3, ms_0_4, ms_0_5, ms_0_6, ms_0_7, ms_0_8, ms_0_9, ms_0_10, ms_1_0, ms_1_1, ms_1_2, ms_1_3, ms_1_4, ms_1_5, ms_1_6, ms_1_7, ms_1_8, ms_1_9, ms_1_10, ms_w, ms_r, ms_d, ms_M, ms_6, ms_K, pC_row]; done) | (simp (disch := (first | omega | (simp only [tN, tD, tR, sF]; omega))) only [pM, pJ, upM_s, upM_k, upM_c, upJ_s, upJ_k, upJ_c, tk_M, tk_K, tk_0, tk_1, tk_2, tk_3, tk_4, tk_5, tk_6, tk_7, tk_8, tk_9, tk_10, tk_o, ms_0_0, ms_0_1, ms_0_2, ms_0_3, ms_0_4, ms_0_5, ms_0_6, ms_0_7, ms_0_8, ms_0_9, ms_0_10, ms_1_0, ms_1_1, ms_1_2, ms_1_3, ms_1_4, ms_1_5, ms_1_6, ms_1_7, ms_1_8, ms_1_9, ms_1_10, ms_w, ms_r, ms_d, ms_M, ms_6, ms_K, pC_row]))) hI.2.1)) ⟨gl_V q374 q375 q376 q5 q377, by decide +kernel⟩ ⟨rfl, rfl, Nat.le_of_ble_eq_true rfl, Nat.le_of_ble_eq_true rfl⟩ (by decide) (c_R E _) rfl rfl hl.1 rfl (Nat.le_of_ble_eq_true rfl) dX8_plug_113 ⟨Nat.zero_le _, Nat.zero_le _⟩) (fun H locs hw => ?_)
                  refine fold_i (y := sp_X8_inside ((pM μ 8 (85 + 29 * a.toNatClampNeg + 13) ((nI (10 * b.toNatClampNeg + w.toNatClampNeg)))).1 8)  (nI (10 * b.toNatClampNeg + 2))) (by first | rfl | (simp [pM, pJ, upM_r, upM_rr, tk_M, tk_K, tk_0, tk_1, tk_2, tk_3, tk_4, tk_5, tk_6, tk_7, tk_8, tk_9, tk_10, tk_o, ms_0_0, ms_0_1, ms_0_2, ms_0_3, ms_0_4, ms_0_5, ms_0_6, ms_0_7, ms_0_8, ms_0_9, ms_0_10, ms_1_0, ms_1_1, ms_1_2, ms_1_3, ms_1_4, ms_1_5, ms_1_6, ms_1_7, ms_1_8, ms_1_9, ms_1_10, ms_w, ms_r, ms_d, ms_M, ms_6, ms_K, pC_row]; done)) ?_
                  refine lv_iconst (v := (-1)) hx hb dX8_plug_116 (by decide) ?_
                  refine lv_icmp_ne (tgt := 124) hx hb dX8_plug_117 (by decide) (fun c12 => ?_) (fun c12 => ?_)
                  · refine lv_iconst (v := 1) hx hb dX8_plug_124 (by decide) ?_
                    refine lv_iadd hx hb dX8_plug_125 ?_
                    refine fold_i (show (2 + 1 : Int32) = 3 from by decide) ?_
                    refine lv_istore (lv' := [(4, .int 3), (5, .int 2), (0, .ref (E.1 (232))), (1, .int (a)), (2, .int (b)), (3, .int (w))]) hx hb dX8_plug_126 hl (by decide) rfl (fun ls hl => ?_)
                    refine lv_iinc (v := 3) (lv' := [(5, .int 3), (4, .int 3), (0, .ref (E.1 (232))), (1, .int (a)), (2, .int (b)), (3, .int (w))]) hx hb dX8_plug_128 hl (k := 1) rfl (by decide) (by decide) rfl (fun ls hl => ?_)
                    refine lv_goto (tgt := 97) hx hb dX8_plug_131 (by decide) ?_
                    refine lv_iload hx hb dX8_plug_97 (lv_at hl 0 rfl) ?_
                    refine lv_iconst (v := 3) hx hb dX8_plug_99 (by decide) ?_
                    refine lv_icmp_ge (tgt := 134) hx hb dX8_plug_100 (by decide) (fun _ => ?_) (fun c => absurd c (by decide))
                    refine lv_aload_n hx hb dX8_plug_134 rfl (lv_at hl 2 rfl) ?_
                    refine lv_iload hx hb dX8_plug_135 (lv_at hl 1 rfl) ?_
                    refine c_i hw (run_V (As := [.int 3]) (rest := []) (np := 1) hf hw (k_X8_acted l E _  (3 : Int32)  (s7_ni (x := μ.1 7 0) (s7_pM (by decide) (s7_pC (by decide) (rfl : S7 (μ.1 7 0) μ))) hst)) ⟨gl_V q150 q151 q152 q5 q153, by decide +kernel⟩ ⟨rfl, rfl, Nat.le_of_ble_eq_true rfl, Nat.le_of_ble_eq_true rfl⟩ (by decide) (c_R E _) rfl rfl hl.1 rfl (Nat.le_of_ble_eq_true rfl) dX8_plug_137 ⟨Nat.zero_le _, Nat.zero_le _⟩) (fun H locs hw => ?_)
                    exact e_i hf hr hlocks hw rfl ((if_pos c1).trans ((if_pos c2).trans ((if_pos c3).trans ((if_pos c4).trans ((if_pos c5).trans ((if_pos c6).trans ((if_neg c8).trans ((if_neg c10).trans ((if_neg c12).trans rfl))))))))) dX8_plug_140
                  · refine lv_iconst (v := 0) hx hb dX8_plug_120 (by decide) ?_
                    refine lv_goto (tgt := 125) hx hb dX8_plug_121 (by decide) ?_
                    refine lv_iadd hx hb dX8_plug_125 ?_
                    refine fold_i (show (2 + 0 : Int32) = 2 from by decide) ?_
                    refine lv_istore (lv' := [(4, .int 2), (5, .int 2), (0, .ref (E.1 (232))), (1, .int (a)), (2, .int (b)), (3, .int (w))]) hx hb dX8_plug_126 hl (by decide) rfl (fun ls hl => ?_)
                    refine lv_iinc (v := 3) (lv' := [(5, .int 3), (4, .int 2), (0, .ref (E.1 (232))), (1, .int (a)), (2, .int (b)), (3, .int (w))]) hx hb dX8_plug_128 hl (k := 1) rfl (by decide) (by decide) rfl (fun ls hl => ?_)
                    refine lv_goto (tgt := 97) hx hb dX8_plug_131 (by decide) ?_
                    refine lv_iload hx hb dX8_plug_97 (lv_at hl 0 rfl) ?_
                    refine lv_iconst (v := 3) hx hb dX8_plug_99 (by decide) ?_
                    refine lv_icmp_ge (tgt := 134) hx hb dX8_plug_100 (by decide) (fun _ => ?_) (fun c => absurd c (by decide))
                    refine lv_aload_n hx hb dX8_plug_134 rfl (lv_at hl 2 rfl) ?_
                    refine lv_iload hx hb dX8_plug_135 (lv_at hl 1 rfl) ?_
                    refine c_i hw (run_V (As := [.int 2]) (rest := []) (np := 1) hf hw (k_X8_acted l E _  (2 : Int32)  (s7_ni (x := μ.1 7 0) (s7_pM (by decide) (s7_pC (by decide) (rfl : S7 (μ.1 7 0) μ))) hst)) ⟨gl_V q150 q151 q152 q5 q153, by decide +kernel⟩ ⟨rfl, rfl, Nat.le_of_ble_eq_true rfl, Nat.le_of_ble_eq_true rfl⟩ (by decide) (c_R E _) rfl rfl hl.1 rfl (Nat.le_of_ble_eq_true rfl) dX8_plug_137 ⟨Nat.zero_le _, Nat.zero_le _⟩) (fun H locs hw => ?_)
                    exact e_i hf hr hlocks hw rfl ((if_pos c1).trans ((if_pos c2).trans ((if_pos c3).trans ((if_pos c4).trans ((if_pos c5).trans ((if_pos c6).trans ((if_neg c8).trans ((if_neg c10).trans ((if_pos c12).trans rfl))))))))) dX8_plug_140
                · refine lv_iconst (v := 0) hx hb dX8_plug_120 (by decide) ?_
                  refine lv_goto (tgt := 125) hx hb dX8_plug_121 (by decide) ?_
                  refine lv_iadd hx hb dX8_plug_125 ?_
                  refine fold_i (show (1 + 0 : Int32) = 1 from by decide) ?_
                  refine lv_istore (lv' := [(4, .int 1), (5, .int 1), (0, .ref (E.1 (232))), (1, .int (a)), (2, .int (b)), (3, .int (w))]) hx hb dX8_plug_126 hl (by decide) rfl (fun ls hl => ?_)
                  refine lv_iinc (v := 2) (lv' := [(5, .int 2), (4, .int 1), (0, .ref (E.1 (232))), (1, .int (a)), (2, .int (b)), (3, .int (w))]) hx hb dX8_plug_128 hl (k := 1) rfl (by decide) (by decide) rfl (fun ls hl => ?_)
                  refine lv_goto (tgt := 97) hx hb dX8_plug_131 (by decide) ?_
                  refine lv_iload hx hb dX8_plug_97 (lv_at hl 0 rfl) ?_
                  refine lv_iconst (v := 3) hx hb dX8_plug_99 (by decide) ?_
                  refine lv_icmp_ge (tgt := 134) hx hb dX8_plug_100 (by decide) (fun c => absurd c (by decide)) (fun _ => ?_)
                  refine lv_iload hx hb dX8_plug_103 (lv_at hl 1 rfl) ?_
                  refine lv_aload_n hx hb dX8_plug_105 rfl (lv_at hl 2 rfl) ?_
                  refine lv_bipush (v := 10) hx hb dX8_plug_106 (by decide) ?_
                  refine lv_iload_n hx hb dX8_plug_108 rfl (lv_at hl 4 rfl) ?_
                  refine fold_i (show b = nI (b.toNatClampNeg) from c2a.1) ?_
                  refine lv_imul hx hb dX8_plug_109 ?_
                  refine fold_i (show (10 : Int32) * nI (b.toNatClampNeg) = nI (10 * b.toNatClampNeg) from pk_mul (10) (b.toNatClampNeg)) ?_
                  refine lv_iload hx hb dX8_plug_110 (lv_at hl 0 rfl) ?_
                  refine lv_iadd hx hb dX8_plug_112 ?_
                  refine fold_i (show nI (10 * b.toNatClampNeg) + (2 : Int32) = nI (10 * b.toNatClampNeg + 2) from nI_add (10 * b.toNatClampNeg) (2)) ?_
                  refine c_iR hw (run_V (As := [.int (nI (10 * b.toNatClampNeg + 2))]) (rest := [.int 1]) (np := 1) hf hw (k_X8_inside l E _  (nI (10 * b.toNatClampNeg + 2))  (cast_ni (show _ = μ.1 8 1 from (by first | (simp [pM, pJ, upM, upJ, sF, tN, tD, tR, tk_M, tk_K, tk_0, tk_1, tk_2, tk_3, tk_4, tk_5, tk_6, tk_7, tk_8, tk_9, tk_10, tk_o, ms_0_0, ms_0_1, ms_0_2, ms_0_3, ms_0_4, ms_0_5, ms_0_6, ms_0_7, ms_0_8, ms_0_9, ms_0_10, ms_1_0, ms_1_1, ms_1_2, ms_1_3, ms_1_4, ms_1_5, ms_1_6, ms_1_7, ms_1_8, ms_1_9, ms_1_10, ms_w, ms_r, ms_d, ms_M, ms_6, ms_K, pC_row]; done) | (simp (disch := (first | omega | (simp only [tN, tD, tR, sF]; omega))) only [pM, pJ, upM_s, upM_k, upM_c, upJ_s, upJ_k, upJ_c, tk_M, tk_K, tk_0, tk_1, tk_2, tk_3, tk_4, tk_5, tk_6, tk_7, tk_8, tk_9, tk_10, tk_o, ms_0_0, ms_0_1, ms_0_2, ms_0_3, ms_0_4, ms_0_5, ms_0_6, ms_0_7, ms_0_8, ms_0_9, ms_0_10, ms_1_0, ms_1_1, ms_1_2, ms_1_3, ms_1_4, ms_1_5, ms_1_6, ms_1_7, ms_1_8, ms_1_9, ms_1_10, ms_w, ms_r, ms_d, ms_M, ms_6, ms_K, pC_row]))) hI.2.1)) ⟨gl_V q374 q375 q376 q5 q377, by decide +kernel⟩ ⟨rfl, rfl, Nat.le_of_ble_eq_true rfl, Nat.le_of_ble_eq_true rfl⟩ (by decide) (c_R E _) rfl rfl hl.1 rfl (Nat.le_of_ble_eq_true rfl) dX8_plug_113 ⟨Nat.zero_le _, Nat.zero_le _⟩) (fun H locs hw => ?_)
                  refine fold_i (y := sp_X8_inside ((pM μ 8 (85 + 29 * a.toNatClampNeg + 13) ((nI (10 * b.toNatClampNeg + w.toNatClampNeg)))).1 8)  (nI (10 * b.toNatClampNeg + 2))) (by first | rfl | (simp [pM, pJ, upM_r, upM_rr, tk_M, tk_K, tk_0, tk_1, tk_2, tk_3, tk_4, tk_5, tk_6, tk_7, tk_8, tk_9, tk_10, tk_o, ms_0_0, ms_0_1, ms_0_2, ms_0_3, ms_0_4, ms_0_5, ms_0_6, ms_0_7, ms_0_8, ms_0_9, ms_0_10, ms_1_0, ms_1_1, ms_1_2, ms_1_3, ms_1_4, ms_1_5, ms_1_6, ms_1_7, ms_1_8, ms_1_9, ms_1_10, ms_w, ms_r, ms_d, ms_M, ms_6, ms_K, pC_row]; done)) ?_
                  refine lv_iconst (v := (-1)) hx hb dX8_plug_116 (by decide) ?_
                  refine lv_icmp_ne (tgt := 124) hx hb dX8_plug_117 (by decide) (fun c16 => ?_) (fun c16 => ?_)
                  · refine lv_iconst (v := 1) hx hb dX8_plug_124 (by decide) ?_
                    refine lv_iadd hx hb dX8_plug_125 ?_
                    refine fold_i (show (1 + 1 : Int32) = 2 from by decide) ?_
                    refine lv_istore (lv' := [(4, .int 2), (5, .int 2), (0, .ref (E.1 (232))), (1, .int (a)), (2, .int (b)), (3, .int (w))]) hx hb dX8_plug_126 hl (by decide) rfl (fun ls hl => ?_)
                    refine lv_iinc (v := 3) (lv' := [(5, .int 3), (4, .int 2), (0, .ref (E.1 (232))), (1, .int (a)), (2, .int (b)), (3, .int (w))]) hx hb dX8_plug_128 hl (k := 1) rfl (by decide) (by decide) rfl (fun ls hl => ?_)
                    refine lv_goto (tgt := 97) hx hb dX8_plug_131 (by decide) ?_
                    refine lv_iload hx hb dX8_plug_97 (lv_at hl 0 rfl) ?_
                    refine lv_iconst (v := 3) hx hb dX8_plug_99 (by decide) ?_
                    refine lv_icmp_ge (tgt := 134) hx hb dX8_plug_100 (by decide) (fun _ => ?_) (fun c => absurd c (by decide))
                    refine lv_aload_n hx hb dX8_plug_134 rfl (lv_at hl 2 rfl) ?_
                    refine lv_iload hx hb dX8_plug_135 (lv_at hl 1 rfl) ?_
                    refine c_i hw (run_V (As := [.int 2]) (rest := []) (np := 1) hf hw (k_X8_acted l E _  (2 : Int32)  (s7_ni (x := μ.1 7 0) (s7_pM (by decide) (s7_pC (by decide) (rfl : S7 (μ.1 7 0) μ))) hst)) ⟨gl_V q150 q151 q152 q5 q153, by decide +kernel⟩ ⟨rfl, rfl, Nat.le_of_ble_eq_true rfl, Nat.le_of_ble_eq_true rfl⟩ (by decide) (c_R E _) rfl rfl hl.1 rfl (Nat.le_of_ble_eq_true rfl) dX8_plug_137 ⟨Nat.zero_le _, Nat.zero_le _⟩) (fun H locs hw => ?_)
                    exact e_i hf hr hlocks hw rfl ((if_pos c1).trans ((if_pos c2).trans ((if_pos c3).trans ((if_pos c4).trans ((if_pos c5).trans ((if_pos c6).trans ((if_neg c8).trans ((if_pos c10).trans ((if_neg c16).trans rfl))))))))) dX8_plug_140
                  · refine lv_iconst (v := 0) hx hb dX8_plug_120 (by decide) ?_
                    refine lv_goto (tgt := 125) hx hb dX8_plug_121 (by decide) ?_
                    refine lv_iadd hx hb dX8_plug_125 ?_
                    refine fold_i (show (1 + 0 : Int32) = 1 from by decide) ?_
                    refine lv_istore (lv' := [(4, .int 1), (5, .int 2), (0, .ref (E.1 (232))), (1, .int (a)), (2, .int (b)), (3, .int (w))]) hx hb dX8_plug_126 hl (by decide) rfl (fun ls hl => ?_)
                    refine lv_iinc (v := 3) (lv' := [(5, .int 3), (4, .int 1), (0, .ref (E.1 (232))), (1, .int (a)), (2, .int (b)), (3, .int (w))]) hx hb dX8_plug_128 hl (k := 1) rfl (by decide) (by decide) rfl (fun ls hl => ?_)
                    refine lv_goto (tgt := 97) hx hb dX8_plug_131 (by decide) ?_
                    refine lv_iload hx hb dX8_plug_97 (lv_at hl 0 rfl) ?_
                    refine lv_iconst (v := 3) hx hb dX8_plug_99 (by decide) ?_
                    refine lv_icmp_ge (tgt := 134) hx hb dX8_plug_100 (by decide) (fun _ => ?_) (fun c => absurd c (by decide))
                    refine lv_aload_n hx hb dX8_plug_134 rfl (lv_at hl 2 rfl) ?_
                    refine lv_iload hx hb dX8_plug_135 (lv_at hl 1 rfl) ?_
                    refine c_i hw (run_V (As := [.int 1]) (rest := []) (np := 1) hf hw (k_X8_acted l E _  (1 : Int32)  (s7_ni (x := μ.1 7 0) (s7_pM (by decide) (s7_pC (by decide) (rfl : S7 (μ.1 7 0) μ))) hst)) ⟨gl_V q150 q151 q152 q5 q153, by decide +kernel⟩ ⟨rfl, rfl, Nat.le_of_ble_eq_true rfl, Nat.le_of_ble_eq_true rfl⟩ (by decide) (c_R E _) rfl rfl hl.1 rfl (Nat.le_of_ble_eq_true rfl) dX8_plug_137 ⟨Nat.zero_le _, Nat.zero_le _⟩) (fun H locs hw => ?_)
                    exact e_i hf hr hlocks hw rfl ((if_pos c1).trans ((if_pos c2).trans ((if_pos c3).trans ((if_pos c4).trans ((if_pos c5).trans ((if_pos c6).trans ((if_neg c8).trans ((if_pos c10).trans ((if_pos c16).trans rfl))))))))) dX8_plug_140
              · refine lv_iconst (v := 0) hx hb dX8_plug_120 (by decide) ?_
                refine lv_goto (tgt := 125) hx hb dX8_plug_121 (by decide) ?_
                refine lv_iadd hx hb dX8_plug_125 ?_
                refine fold_i (show (0 + 0 : Int32) = 0 from by decide) ?_
                refine lv_istore (lv' := [(4, .int 0), (5, .int 0), (0, .ref (E.1 (232))), (1, .int (a)), (2, .int (b)), (3, .int (w))]) hx hb dX8_plug_126 hl (by decide) rfl (fun ls hl => ?_)
                refine lv_iinc (v := 1) (lv' := [(5, .int 1), (4, .int 0), (0, .ref (E.1 (232))), (1, .int (a)), (2, .int (b)), (3, .int (w))]) hx hb dX8_plug_128 hl (k := 1) rfl (by decide) (by decide) rfl (fun ls hl => ?_)
                refine lv_goto (tgt := 97) hx hb dX8_plug_131 (by decide) ?_
                refine lv_iload hx hb dX8_plug_97 (lv_at hl 0 rfl) ?_
                refine lv_iconst (v := 3) hx hb dX8_plug_99 (by decide) ?_
                refine lv_icmp_ge (tgt := 134) hx hb dX8_plug_100 (by decide) (fun c => absurd c (by decide)) (fun _ => ?_)
                refine lv_iload hx hb dX8_plug_103 (lv_at hl 1 rfl) ?_
                refine lv_aload_n hx hb dX8_plug_105 rfl (lv_at hl 2 rfl) ?_
                refine lv_bipush (v := 10) hx hb dX8_plug_106 (by decide) ?_
                refine lv_iload_n hx hb dX8_plug_108 rfl (lv_at hl 4 rfl) ?_
                refine fold_i (show b = nI (b.toNatClampNeg) from c2a.1) ?_
                refine lv_imul hx hb dX8_plug_109 ?_
                refine fold_i (show (10 : Int32) * nI (b.toNatClampNeg) = nI (10 * b.toNatClampNeg) from pk_mul (10) (b.toNatClampNeg)) ?_
                refine lv_iload hx hb dX8_plug_110 (lv_at hl 0 rfl) ?_
                refine lv_iadd hx hb dX8_plug_112 ?_
                refine fold_i (show nI (10 * b.toNatClampNeg) + (1 : Int32) = nI (10 * b.toNatClampNeg + 1) from nI_add (10 * b.toNatClampNeg) (1)) ?_
                refine c_iR hw (run_V (As := [.int (nI (10 * b.toNatClampNeg + 1))]) (rest := [.int 0]) (np := 1) hf hw (k_X8_inside l E _  (nI (10 * b.toNatClampNeg + 1))  (cast_ni (show _ = μ.1 8 1 from (by first | (simp [pM, pJ, upM, upJ, sF, tN, tD, tR, tk_M, tk_K, tk_0, tk_1, tk_2, tk_3, tk_4, tk_5, tk_6, tk_7, tk_8, tk_9, tk_10, tk_o, ms_0_0, ms_0_1, ms_0_2, ms_0_3, ms_0_4, ms_0_5, ms_0_6, ms_0_7, ms_0_8, ms_0_9, ms_0_10, ms_1_0, ms_1_1, ms_1_2, ms_1_3, ms_1_4, ms_1_5, ms_1_6, ms_1_7, ms_1_8, ms_1_9, ms_1_10, ms_w, ms_r, ms_d, ms_M, ms_6, ms_K, pC_row]; done) | (simp (disch := (first | omega | (simp only [tN, tD, tR, sF]; omega))) only [pM, pJ, upM_s, upM_k, upM_c, upJ_s, upJ_k, upJ_c, tk_M, tk_K, tk_0, tk_1, tk_2, tk_3, tk_4, tk_5, tk_6, tk_7, tk_8, tk_9, tk_10, tk_o, ms_0_0, ms_0_1, ms_0_2, ms_0_3, ms_0_4, ms_0_5, ms_0_6, ms_0_7, ms_0_8, ms_0_9, ms_0_10, ms_1_0, ms_1_1, ms_1_2, ms_1_3, ms_1_4, ms_1_5, ms_1_6, ms_1_7, ms_1_8, ms_1_9, ms_1_10, ms_w, ms_r, ms_d, ms_M, ms_6, ms_K, pC_row]))) hI.2.1)) ⟨gl_V q374 q375 q376 q5 q377, by decide +kernel⟩ ⟨rfl, rfl, Nat.le_of_ble_eq_true rfl, Nat.le_of_ble_eq_true rfl⟩ (by decide) (c_R E _) rfl rfl hl.1 rfl (Nat.le_of_ble_eq_true rfl) dX8_plug_113 ⟨Nat.zero_le _, Nat.zero_le _⟩) (fun H locs hw => ?_)
                refine fold_i (y := sp_X8_inside ((pM μ 8 (85 + 29 * a.toNatClampNeg + 13) ((nI (10 * b.toNatClampNeg + w.toNatClampNeg)))).1 8)  (nI (10 * b.toNatClampNeg + 1))) (by first | rfl | (simp [pM, pJ, upM_r, upM_rr, tk_M, tk_K, tk_0, tk_1, tk_2, tk_3, tk_4, tk_5, tk_6, tk_7, tk_8, tk_9, tk_10, tk_o, ms_0_0, ms_0_1, ms_0_2, ms_0_3, ms_0_4, ms_0_5, ms_0_6, ms_0_7, ms_0_8, ms_0_9, ms_0_10, ms_1_0, ms_1_1, ms_1_2, ms_1_3, ms_1_4, ms_1_5, ms_1_6, ms_1_7, ms_1_8, ms_1_9, ms_1_10, ms_w, ms_r, ms_d, ms_M, ms_6, ms_K, pC_row]; done)) ?_
                refine lv_iconst (v := (-1)) hx hb dX8_plug_116 (by decide) ?_
                refine lv_icmp_ne (tgt := 124) hx hb dX8_plug_117 (by decide) (fun c20 => ?_) (fun c20 => ?_)
                · refine lv_iconst (v := 1) hx hb dX8_plug_124 (by decide) ?_
                  refine lv_iadd hx hb dX8_plug_125 ?_
                  refine fold_i (show (0 + 1 : Int32) = 1 from by decide) ?_
                  refine lv_istore (lv' := [(4, .int 1), (5, .int 1), (0, .ref (E.1 (232))), (1, .int (a)), (2, .int (b)), (3, .int (w))]) hx hb dX8_plug_126 hl (by decide) rfl (fun ls hl => ?_)
                  refine lv_iinc (v := 2) (lv' := [(5, .int 2), (4, .int 1), (0, .ref (E.1 (232))), (1, .int (a)), (2, .int (b)), (3, .int (w))]) hx hb dX8_plug_128 hl (k := 1) rfl (by decide) (by decide) rfl (fun ls hl => ?_)
                  refine lv_goto (tgt := 97) hx hb dX8_plug_131 (by decide) ?_
                  refine lv_iload hx hb dX8_plug_97 (lv_at hl 0 rfl) ?_
                  refine lv_iconst (v := 3) hx hb dX8_plug_99 (by decide) ?_
                  refine lv_icmp_ge (tgt := 134) hx hb dX8_plug_100 (by decide) (fun c => absurd c (by decide)) (fun _ => ?_)
                  refine lv_iload hx hb dX8_plug_103 (lv_at hl 1 rfl) ?_
                  refine lv_aload_n hx hb dX8_plug_105 rfl (lv_at hl 2 rfl) ?_
                  refine lv_bipush (v := 10) hx hb dX8_plug_106 (by decide) ?_
                  refine lv_iload_n hx hb dX8_plug_108 rfl (lv_at hl 4 rfl) ?_
                  refine fold_i (show b = nI (b.toNatClampNeg) from c2a.1) ?_
                  refine lv_imul hx hb dX8_plug_109 ?_
                  refine fold_i (show (10 : Int32) * nI (b.toNatClampNeg) = nI (10 * b.toNatClampNeg) from pk_mul (10) (b.toNatClampNeg)) ?_
                  refine lv_iload hx hb dX8_plug_110 (lv_at hl 0 rfl) ?_
                  refine lv_iadd hx hb dX8_plug_112 ?_
                  refine fold_i (show nI (10 * b.toNatClampNeg) + (2 : Int32) = nI (10 * b.toNatClampNeg + 2) from nI_add (10 * b.toNatClampNeg) (2)) ?_
                  refine c_iR hw (run_V (As := [.int (nI (10 * b.toNatClampNeg + 2))]) (rest := [.int 1]) (np := 1) hf hw (k_X8_inside l E _  (nI (10 * b.toNatClampNeg + 2))  (cast_ni (show _ = μ.1 8 1 from (by first | (simp [pM, pJ, upM, upJ, sF, tN, tD, tR, tk_M, tk_K, tk_0, tk_1, tk_2, tk_3, tk_4, tk_5, tk_6, tk_7, tk_8, tk_9, tk_10, tk_o, ms_0_0, ms_0_1, ms_0_2, ms_0_3, ms_0_4, ms_0_5, ms_0_6, ms_0_7, ms_0_8, ms_0_9, ms_0_10, ms_1_0, ms_1_1, ms_1_2, ms_1_3, ms_1_4, ms_1_5, ms_1_6, ms_1_7, ms_1_8, ms_1_9, ms_1_10, ms_w, ms_r, ms_d, ms_M, ms_6, ms_K, pC_row]; done) | (simp (disch := (first | omega | (simp only [tN, tD, tR, sF]; omega))) only [pM, pJ, upM_s, upM_k, upM_c, upJ_s, upJ_k, upJ_c, tk_M, tk_K, tk_0, tk_1, tk_2, tk_3, tk_4, tk_5, tk_6, tk_7, tk_8, tk_9, tk_10, tk_o, ms_0_0, ms_0_1, ms_0_2, ms_0_3, ms_0_4, ms_0_5, ms_0_6, ms_0_7, ms_0_8, ms_0_9, ms_0_10, ms_1_0, ms_1_1, ms_1_2, ms_1_3, ms_1_4, ms_1_5, ms_1_6, ms_1_7, ms_1_8, ms_1_9, ms_1_10, ms_w, ms_r, ms_d, ms_M, ms_6, ms_K, pC_row]))) hI.2.1)) ⟨gl_V q374 q375 q376 q5 q377, by decide +kernel⟩ ⟨rfl, rfl, Nat.le_of_ble_eq_true rfl, Nat.le_of_ble_eq_true rfl⟩ (by decide) (c_R E _) rfl rfl hl.1 rfl (Nat.le_of_ble_eq_true rfl) dX8_plug_113 ⟨Nat.zero_le _, Nat.zero_le _⟩) (fun H locs hw => ?_)
                  refine fold_i (y := sp_X8_inside ((pM μ 8 (85 + 29 * a.toNatClampNeg + 13) ((nI (10 * b.toNatClampNeg + w.toNatClampNeg)))).1 8)  (nI (10 * b.toNatClampNeg + 2))) (by first | rfl | (simp [pM, pJ, upM_r, upM_rr, tk_M, tk_K, tk_0, tk_1, tk_2, tk_3, tk_4, tk_5, tk_6, tk_7, tk_8, tk_9, tk_10, tk_o, ms_0_0, ms_0_1, ms_0_2, ms_0_3, ms_0_4, ms_0_5, ms_0_6, ms_0_7, ms_0_8, ms_0_9, ms_0_10, ms_1_0, ms_1_1, ms_1_2, ms_1_3, ms_1_4, ms_1_5, ms_1_6, ms_1_7, ms_1_8, ms_1_9, ms_1_10, ms_w, ms_r, ms_d, ms_M, ms_6, ms_K, pC_row]; done)) ?_
                  refine lv_iconst (v := (-1)) hx hb dX8_plug_116 (by decide) ?_
                  refine lv_icmp_ne (tgt := 124) hx hb dX8_plug_117 (by decide) (fun c22 => ?_) (fun c22 => ?_)
                  · refine lv_iconst (v := 1) hx hb dX8_plug_124 (by decide) ?_
                    refine lv_iadd hx hb dX8_plug_125 ?_
                    refine fold_i (show (1 + 1 : Int32) = 2 from by decide) ?_
                    refine lv_istore (lv' := [(4, .int 2), (5, .int 2), (0, .ref (E.1 (232))), (1, .int (a)), (2, .int (b)), (3, .int (w))]) hx hb dX8_plug_126 hl (by decide) rfl (fun ls hl => ?_)
                    refine lv_iinc (v := 3) (lv' := [(5, .int 3), (4, .int 2), (0, .ref (E.1 (232))), (1, .int (a)), (2, .int (b)), (3, .int (w))]) hx hb dX8_plug_128 hl (k := 1) rfl (by decide) (by decide) rfl (fun ls hl => ?_)
                    refine lv_goto (tgt := 97) hx hb dX8_plug_131 (by decide) ?_
                    refine lv_iload hx hb dX8_plug_97 (lv_at hl 0 rfl) ?_
                    refine lv_iconst (v := 3) hx hb dX8_plug_99 (by decide) ?_
                    refine lv_icmp_ge (tgt := 134) hx hb dX8_plug_100 (by decide) (fun _ => ?_) (fun c => absurd c (by decide))
                    refine lv_aload_n hx hb dX8_plug_134 rfl (lv_at hl 2 rfl) ?_
                    refine lv_iload hx hb dX8_plug_135 (lv_at hl 1 rfl) ?_
                    refine c_i hw (run_V (As := [.int 2]) (rest := []) (np := 1) hf hw (k_X8_acted l E _  (2 : Int32)  (s7_ni (x := μ.1 7 0) (s7_pM (by decide) (s7_pC (by decide) (rfl : S7 (μ.1 7 0) μ))) hst)) ⟨gl_V q150 q151 q152 q5 q153, by decide +kernel⟩ ⟨rfl, rfl, Nat.le_of_ble_eq_true rfl, Nat.le_of_ble_eq_true rfl⟩ (by decide) (c_R E _) rfl rfl hl.1 rfl (Nat.le_of_ble_eq_true rfl) dX8_plug_137 ⟨Nat.zero_le _, Nat.zero_le _⟩) (fun H locs hw => ?_)
                    exact e_i hf hr hlocks hw rfl ((if_pos c1).trans ((if_pos c2).trans ((if_pos c3).trans ((if_pos c4).trans ((if_pos c5).trans ((if_pos c6).trans ((if_pos c8).trans ((if_neg c20).trans ((if_neg c22).trans rfl))))))))) dX8_plug_140
                  · refine lv_iconst (v := 0) hx hb dX8_plug_120 (by decide) ?_
                    refine lv_goto (tgt := 125) hx hb dX8_plug_121 (by decide) ?_
                    refine lv_iadd hx hb dX8_plug_125 ?_
                    refine fold_i (show (1 + 0 : Int32) = 1 from by decide) ?_
                    refine lv_istore (lv' := [(4, .int 1), (5, .int 2), (0, .ref (E.1 (232))), (1, .int (a)), (2, .int (b)), (3, .int (w))]) hx hb dX8_plug_126 hl (by decide) rfl (fun ls hl => ?_)
                    refine lv_iinc (v := 3) (lv' := [(5, .int 3), (4, .int 1), (0, .ref (E.1 (232))), (1, .int (a)), (2, .int (b)), (3, .int (w))]) hx hb dX8_plug_128 hl (k := 1) rfl (by decide) (by decide) rfl (fun ls hl => ?_)
                    refine lv_goto (tgt := 97) hx hb dX8_plug_131 (by decide) ?_
                    refine lv_iload hx hb dX8_plug_97 (lv_at hl 0 rfl) ?_
                    refine lv_iconst (v := 3) hx hb dX8_plug_99 (by decide) ?_
                    refine lv_icmp_ge (tgt := 134) hx hb dX8_plug_100 (by decide) (fun _ => ?_) (fun c => absurd c (by decide))
                    refine lv_aload_n hx hb dX8_plug_134 rfl (lv_at hl 2 rfl) ?_
                    refine lv_iload hx hb dX8_plug_135 (lv_at hl 1 rfl) ?_
                    refine c_i hw (run_V (As := [.int 1]) (rest := []) (np := 1) hf hw (k_X8_acted l E _  (1 : Int32)  (s7_ni (x := μ.1 7 0) (s7_pM (by decide) (s7_pC (by decide) (rfl : S7 (μ.1 7 0) μ))) hst)) ⟨gl_V q150 q151 q152 q5 q153, by decide +kernel⟩ ⟨rfl, rfl, Nat.le_of_ble_eq_true rfl, Nat.le_of_ble_eq_true rfl⟩ (by decide) (c_R E _) rfl rfl hl.1 rfl (Nat.le_of_ble_eq_true rfl) dX8_plug_137 ⟨Nat.zero_le _, Nat.zero_le _⟩) (fun H locs hw => ?_)
                    exact e_i hf hr hlocks hw rfl ((if_pos c1).trans ((if_pos c2).trans ((if_pos c3).trans ((if_pos c4).trans ((if_pos c5).trans ((if_pos c6).trans ((if_pos c8).trans ((if_neg c20).trans ((if_pos c22).trans rfl))))))))) dX8_plug_140
                · refine lv_iconst (v := 0) hx hb dX8_plug_120 (by decide) ?_
                  refine lv_goto (tgt := 125) hx hb dX8_plug_121 (by decide) ?_
                  refine lv_iadd hx hb dX8_plug_125 ?_
                  refine fold_i (show (0 + 0 : Int32) = 0 from by decide) ?_
                  refine lv_istore (lv' := [(4, .int 0), (5, .int 1), (0, .ref (E.1 (232))), (1, .int (a)), (2, .int (b)), (3, .int (w))]) hx hb dX8_plug_126 hl (by decide) rfl (fun ls hl => ?_)
                  refine lv_iinc (v := 2) (lv' := [(5, .int 2), (4, .int 0), (0, .ref (E.1 (232))), (1, .int (a)), (2, .int (b)), (3, .int (w))]) hx hb dX8_plug_128 hl (k := 1) rfl (by decide) (by decide) rfl (fun ls hl => ?_)
                  refine lv_goto (tgt := 97) hx hb dX8_plug_131 (by decide) ?_
                  refine lv_iload hx hb dX8_plug_97 (lv_at hl 0 rfl) ?_
                  refine lv_iconst (v := 3) hx hb dX8_plug_99 (by decide) ?_
                  refine lv_icmp_ge (tgt := 134) hx hb dX8_plug_100 (by decide) (fun c => absurd c (by decide)) (fun _ => ?_)
                  refine lv_iload hx hb dX8_plug_103 (lv_at hl 1 rfl) ?_
                  refine lv_aload_n hx hb dX8_plug_105 rfl (lv_at hl 2 rfl) ?_
                  refine lv_bipush (v := 10) hx hb dX8_plug_106 (by decide) ?_
                  refine lv_iload_n hx hb dX8_plug_108 rfl (lv_at hl 4 rfl) ?_
                  refine fold_i (show b = nI (b.toNatClampNeg) from c2a.1) ?_
                  refine lv_imul hx hb dX8_plug_109 ?_
                  refine fold_i (show (10 : Int32) * nI (b.toNatClampNeg) = nI (10 * b.toNatClampNeg) from pk_mul (10) (b.toNatClampNeg)) ?_
                  refine lv_iload hx hb dX8_plug_110 (lv_at hl 0 rfl) ?_
                  refine lv_iadd hx hb dX8_plug_112 ?_
                  refine fold_i (show nI (10 * b.toNatClampNeg) + (2 : Int32) = nI (10 * b.toNatClampNeg + 2) from nI_add (10 * b.toNatClampNeg) (2)) ?_
                  refine c_iR hw (run_V (As := [.int (nI (10 * b.toNatClampNeg + 2))]) (rest := [.int 0]) (np := 1) hf hw (k_X8_inside l E _  (nI (10 * b.toNatClampNeg + 2))  (cast_ni (show _ = μ.1 8 1 from (by first | (simp [pM, pJ, upM, upJ, sF, tN, tD, tR, tk_M, tk_K, tk_0, tk_1, tk_2, tk_3, tk_4, tk_5, tk_6, tk_7, tk_8, tk_9, tk_10, tk_o, ms_0_0, ms_0_1, ms_0_2, ms_0_3, ms_0_4, ms_0_5, ms_0_6, ms_0_7, ms_0_8, ms_0_9, ms_0_10, ms_1_0, ms_1_1, ms_1_2, ms_1_3, ms_1_4, ms_1_5, ms_1_6, ms_1_7, ms_1_8, ms_1_9, ms_1_10, ms_w, ms_r, ms_d, ms_M, ms_6, ms_K, pC_row]; done) | (simp (disch := (first | omega | (simp only [tN, tD, tR, sF]; omega))) only [pM, pJ, upM_s, upM_k, upM_c, upJ_s, upJ_k, upJ_c, tk_M, tk_K, tk_0, tk_1, tk_2, tk_3, tk_4, tk_5, tk_6, tk_7, tk_8, tk_9, tk_10, tk_o, ms_0_0, ms_0_1, ms_0_2, ms_0_3, ms_0_4, ms_0_5, ms_0_6, ms_0_7, ms_0_8, ms_0_9, ms_0_10, ms_1_0, ms_1_1, ms_1_2, ms_1_3, ms_1_4, ms_1_5, ms_1_6, ms_1_7, ms_1_8, ms_1_9, ms_1_10, ms_w, ms_r, ms_d, ms_M, ms_6, ms_K, pC_row]))) hI.2.1)) ⟨gl_V q374 q375 q376 q5 q377, by decide +kernel⟩ ⟨rfl, rfl, Nat.le_of_ble_eq_true rfl, Nat.le_of_ble_eq_true rfl⟩ (by decide) (c_R E _) rfl rfl hl.1 rfl (Nat.le_of_ble_eq_true rfl) dX8_plug_113 ⟨Nat.zero_le _, Nat.zero_le _⟩) (fun H locs hw => ?_)
                  refine fold_i (y := sp_X8_inside ((pM μ 8 (85 + 29 * a.toNatClampNeg + 13) ((nI (10 * b.toNatClampNeg + w.toNatClampNeg)))).1 8)  (nI (10 * b.toNatClampNeg + 2))) (by first | rfl | (simp [pM, pJ, upM_r, upM_rr, tk_M, tk_K, tk_0, tk_1, tk_2, tk_3, tk_4, tk_5, tk_6, tk_7, tk_8, tk_9, tk_10, tk_o, ms_0_0, ms_0_1, ms_0_2, ms_0_3, ms_0_4, ms_0_5, ms_0_6, ms_0_7, ms_0_8, ms_0_9, ms_0_10, ms_1_0, ms_1_1, ms_1_2, ms_1_3, ms_1_4, ms_1_5, ms_1_6, ms_1_7, ms_1_8, ms_1_9, ms_1_10, ms_w, ms_r, ms_d, ms_M, ms_6, ms_K, pC_row]; done)) ?_
                  refine lv_iconst (v := (-1)) hx hb dX8_plug_116 (by decide) ?_
                  refine lv_icmp_ne (tgt := 124) hx hb dX8_plug_117 (by decide) (fun c26 => ?_) (fun c26 => ?_)
                  · refine lv_iconst (v := 1) hx hb dX8_plug_124 (by decide) ?_
                    refine lv_iadd hx hb dX8_plug_125 ?_
                    refine fold_i (show (0 + 1 : Int32) = 1 from by decide) ?_
                    refine lv_istore (lv' := [(4, .int 1), (5, .int 2), (0, .ref (E.1 (232))), (1, .int (a)), (2, .int (b)), (3, .int (w))]) hx hb dX8_plug_126 hl (by decide) rfl (fun ls hl => ?_)
                    refine lv_iinc (v := 3) (lv' := [(5, .int 3), (4, .int 1), (0, .ref (E.1 (232))), (1, .int (a)), (2, .int (b)), (3, .int (w))]) hx hb dX8_plug_128 hl (k := 1) rfl (by decide) (by decide) rfl (fun ls hl => ?_)
                    refine lv_goto (tgt := 97) hx hb dX8_plug_131 (by decide) ?_
                    refine lv_iload hx hb dX8_plug_97 (lv_at hl 0 rfl) ?_
                    refine lv_iconst (v := 3) hx hb dX8_plug_99 (by decide) ?_
                    refine lv_icmp_ge (tgt := 134) hx hb dX8_plug_100 (by decide) (fun _ => ?_) (fun c => absurd c (by decide))
                    refine lv_aload_n hx hb dX8_plug_134 rfl (lv_at hl 2 rfl) ?_
                    refine lv_iload hx hb dX8_plug_135 (lv_at hl 1 rfl) ?_
                    refine c_i hw (run_V (As := [.int 1]) (rest := []) (np := 1) hf hw (k_X8_acted l E _  (1 : Int32)  (s7_ni (x := μ.1 7 0) (s7_pM (by decide) (s7_pC (by decide) (rfl : S7 (μ.1 7 0) μ))) hst)) ⟨gl_V q150 q151 q152 q5 q153, by decide +kernel⟩ ⟨rfl, rfl, Nat.le_of_ble_eq_true rfl, Nat.le_of_ble_eq_true rfl⟩ (by decide) (c_R E _) rfl rfl hl.1 rfl (Nat.le_of_ble_eq_true rfl) dX8_plug_137 ⟨Nat.zero_le _, Nat.zero_le _⟩) (fun H locs hw => ?_)
                    exact e_i hf hr hlocks hw rfl ((if_pos c1).trans ((if_pos c2).trans ((if_pos c3).trans ((if_pos c4).trans ((if_pos c5).trans ((if_pos c6).trans ((if_pos c8).trans ((if_pos c20).trans ((if_neg c26).trans rfl))))))))) dX8_plug_140
                  · refine lv_iconst (v := 0) hx hb dX8_plug_120 (by decide) ?_
                    refine lv_goto (tgt := 125) hx hb dX8_plug_121 (by decide) ?_
                    refine lv_iadd hx hb dX8_plug_125 ?_
                    refine fold_i (show (0 + 0 : Int32) = 0 from by decide) ?_
                    refine lv_istore (lv' := [(4, .int 0), (5, .int 2), (0, .ref (E.1 (232))), (1, .int (a)), (2, .int (b)), (3, .int (w))]) hx hb dX8_plug_126 hl (by decide) rfl (fun ls hl => ?_)
                    refine lv_iinc (v := 3) (lv' := [(5, .int 3), (4, .int 0), (0, .ref (E.1 (232))), (1, .int (a)), (2, .int (b)), (3, .int (w))]) hx hb dX8_plug_128 hl (k := 1) rfl (by decide) (by decide) rfl (fun ls hl => ?_)
                    refine lv_goto (tgt := 97) hx hb dX8_plug_131 (by decide) ?_
                    refine lv_iload hx hb dX8_plug_97 (lv_at hl 0 rfl) ?_
                    refine lv_iconst (v := 3) hx hb dX8_plug_99 (by decide) ?_
                    refine lv_icmp_ge (tgt := 134) hx hb dX8_plug_100 (by decide) (fun _ => ?_) (fun c => absurd c (by decide))
                    refine lv_aload_n hx hb dX8_plug_134 rfl (lv_at hl 2 rfl) ?_
                    refine lv_iload hx hb dX8_plug_135 (lv_at hl 1 rfl) ?_
                    refine c_i hw (run_V (As := [.int 0]) (rest := []) (np := 1) hf hw (k_X8_acted l E _  (0 : Int32)  (s7_ni (x := μ.1 7 0) (s7_pM (by decide) (s7_pC (by decide) (rfl : S7 (μ.1 7 0) μ))) hst)) ⟨gl_V q150 q151 q152 q5 q153, by decide +kernel⟩ ⟨rfl, rfl, Nat.le_of_ble_eq_true rfl, Nat.le_of_ble_eq_true rfl⟩ (by decide) (c_R E _) rfl rfl hl.1 rfl (Nat.le_of_ble_eq_true rfl) dX8_plug_137 ⟨Nat.zero_le _, Nat.zero_le _⟩) (fun H locs hw => ?_)
                    exact e_i hf hr hlocks hw rfl ((if_pos c1).trans ((if_pos c2).trans ((if_pos c3).trans ((if_pos c4).trans ((if_pos c5).trans ((if_pos c6).trans ((if_pos c8).trans ((if_pos c20).trans ((if_pos c26).trans rfl))))))))) dX8_plug_140
            · have c6n : ¬ 3 ≤ (b.toNatClampNeg) := by have q := (nI_leI (a := 3) (b := (b.toNatClampNeg)) (by omega) (by omega)); first | exact q.mp c6 | exact fun z => c6 (q.mpr z)
              refine lv_aload_n hx hb dX8_plug_59 rfl (lv_at hl 0 rfl) ?_
              refine lv_iload_n hx hb dX8_plug_60 rfl (lv_at hl 1 rfl) ?_
              refine fold_i (show a = nI (a.toNatClampNeg) from c1a.1) ?_
              refine lv_iconst (v := 1) hx hb dX8_plug_61 (by decide) ?_
              refine c_iR hw (run_V (As := [.int (nI (a.toNatClampNeg)), .int 1]) (rest := []) (np := 2) hf hw (kn_X8_of l E _  a.toNatClampNeg 1  (show a.toNatClampNeg < 6 from c1ab) (show 1 < 29 from (by decide))) ⟨gl_V q227 q228 q229 q5 q230, by decide +kernel⟩ ⟨rfl, rfl, Nat.le_of_ble_eq_true rfl, Nat.le_of_ble_eq_true rfl⟩ (by decide) (c_R E _) rfl rfl hl.1 rfl (Nat.le_of_ble_eq_true rfl) dX8_plug_62 ⟨Nat.zero_le _, Nat.zero_le _⟩) (fun H locs hw => ?_)
              have hb29 := ((hI).2.2.2 _ c1ab).2.2.2
              refine fold_i (show μ.1 8 (85 + 29 * a.toNatClampNeg + 1) = nI ((μ.1 8 (85 + 29 * a.toNatClampNeg + 1)).toNatClampNeg) from ((hI).2.2.2 _ c1ab).2.2.1) ?_
              refine lv_iload_n hx hb dX8_plug_65 rfl (lv_at hl 2 rfl) ?_
              refine fold_i (show b = nI (b.toNatClampNeg) from c2a.1) ?_
              refine lv_iconst (v := 2) hx hb dX8_plug_66 (by decide) ?_
              refine lv_iadd hx hb dX8_plug_67 ?_
              refine fold_i (show nI (b.toNatClampNeg) + (2 : Int32) = nI (b.toNatClampNeg + 2) from nI_add (b.toNatClampNeg) (2)) ?_
              refine lv_icmp_eq (tgt := 74) hx hb dX8_plug_68 (by decide) (fun c30 => ?_) (fun c30 => ?_)
              · have c30n : ((μ.1 8 (85 + 29 * a.toNatClampNeg + 1)).toNatClampNeg) = (b.toNatClampNeg + 2) := by have q := (nI_eq (a := ((μ.1 8 (85 + 29 * a.toNatClampNeg + 1)).toNatClampNeg)) (b := (b.toNatClampNeg + 2)) (by omega) (by omega)); first | exact q.mp c30 | exact fun z => c30 (q.mpr z)
                refine lv_aload_n hx hb dX8_plug_74 rfl (lv_at hl 0 rfl) ?_
                refine c_v hw (run_V (As := []) (rest := []) (np := 0) hf hw (kn_X8_keeps l E _    ) ⟨gl_V q146 q147 q148 q5 q149, by decide +kernel⟩ ⟨rfl, rfl, Nat.le_of_ble_eq_true rfl, Nat.le_of_ble_eq_true rfl⟩ (by decide) (c_R E _) rfl rfl hl.1 rfl (Nat.le_of_ble_eq_true rfl) dX8_plug_75 ⟨Nat.zero_le _, Nat.zero_le _⟩) (fun H locs hw => ?_)
                refine lv_aload_n hx hb dX8_plug_78 rfl (lv_at hl 0 rfl) ?_
                refine lv_iload_n hx hb dX8_plug_79 rfl (lv_at hl 1 rfl) ?_
                refine fold_i (show a = nI (a.toNatClampNeg) from c1a.1) ?_
                refine lv_bipush (v := 13) hx hb dX8_plug_80 (by decide) ?_
                refine lv_bipush (v := 10) hx hb dX8_plug_82 (by decide) ?_
                refine lv_iload_n hx hb dX8_plug_84 rfl (lv_at hl 2 rfl) ?_
                refine fold_i (show b = nI (b.toNatClampNeg) from c2a.1) ?_
                refine lv_imul hx hb dX8_plug_85 ?_
                refine fold_i (show (10 : Int32) * nI (b.toNatClampNeg) = nI (10 * b.toNatClampNeg) from pk_mul (10) (b.toNatClampNeg)) ?_
                refine lv_iload_n hx hb dX8_plug_86 rfl (lv_at hl 3 rfl) ?_
                refine fold_i (show w = nI (w.toNatClampNeg) from c3a.1) ?_
                refine lv_iadd hx hb dX8_plug_87 ?_
                refine fold_i (show nI (10 * b.toNatClampNeg) + nI (w.toNatClampNeg) = nI (10 * b.toNatClampNeg + w.toNatClampNeg) from nI_add (10 * b.toNatClampNeg) (w.toNatClampNeg)) ?_
                refine c_v hw (run_V (As := [.int (nI (a.toNatClampNeg)), .int 13, .int (nI (10 * b.toNatClampNeg + w.toNatClampNeg))]) (rest := []) (np := 3) hf hw (kn_X8_put l E _  a.toNatClampNeg 13 (nI (10 * b.toNatClampNeg + w.toNatClampNeg))  (show a.toNatClampNeg < 6 from c1ab) (show 13 < 29 from (by decide))) ⟨gl_V q335 q336 q337 q5 q338, by decide +kernel⟩ ⟨rfl, rfl, Nat.le_of_ble_eq_true rfl, Nat.le_of_ble_eq_true rfl⟩ (by decide) (c_R E _) rfl rfl hl.1 rfl (Nat.le_of_ble_eq_true rfl) dX8_plug_88 ⟨Nat.zero_le _, Nat.zero_le _⟩) (fun H locs hw => ?_)
                refine lv_iconst (v := 0) hx hb dX8_plug_91 (by decide) ?_
                refine lv_istore (lv' := [(4, .int 0), (0, .ref (E.1 (232))), (1, .int (a)), (2, .int (b)), (3, .int (w))]) hx hb dX8_plug_92 hl (by decide) rfl (fun ls hl => ?_)
                refine lv_iconst (v := 0) hx hb dX8_plug_94 (by decide) ?_
                refine lv_istore (lv' := [(5, .int 0), (4, .int 0), (0, .ref (E.1 (232))), (1, .int (a)), (2, .int (b)), (3, .int (w))]) hx hb dX8_plug_95 hl (by decide) rfl (fun ls hl => ?_)
                refine lv_iload hx hb dX8_plug_97 (lv_at hl 0 rfl) ?_
                refine lv_iconst (v := 3) hx hb dX8_plug_99 (by decide) ?_
                refine lv_icmp_ge (tgt := 134) hx hb dX8_plug_100 (by decide) (fun c => absurd c (by decide)) (fun _ => ?_)
                refine lv_iload hx hb dX8_plug_103 (lv_at hl 1 rfl) ?_
                refine lv_aload_n hx hb dX8_plug_105 rfl (lv_at hl 2 rfl) ?_
                refine lv_bipush (v := 10) hx hb dX8_plug_106 (by decide) ?_
                refine lv_iload_n hx hb dX8_plug_108 rfl (lv_at hl 4 rfl) ?_
                refine fold_i (show b = nI (b.toNatClampNeg) from c2a.1) ?_
                refine lv_imul hx hb dX8_plug_109 ?_
                refine fold_i (show (10 : Int32) * nI (b.toNatClampNeg) = nI (10 * b.toNatClampNeg) from pk_mul (10) (b.toNatClampNeg)) ?_
                refine lv_iload hx hb dX8_plug_110 (lv_at hl 0 rfl) ?_
                refine lv_iadd hx hb dX8_plug_112 ?_
                refine fold_i (show nI (10 * b.toNatClampNeg) + (0 : Int32) = nI (10 * b.toNatClampNeg + 0) from nI_add (10 * b.toNatClampNeg) (0)) ?_
                refine c_iR hw (run_V (As := [.int (nI (10 * b.toNatClampNeg + 0))]) (rest := [.int 0]) (np := 1) hf hw (k_X8_inside l E _  (nI (10 * b.toNatClampNeg + 0))  (cast_ni (show _ = μ.1 8 1 from (by first | (simp [pM, pJ, upM, upJ, sF, tN, tD, tR, tk_M, tk_K, tk_0, tk_1, tk_2, tk_3, tk_4, tk_5, tk_6, tk_7, tk_8, tk_9, tk_10, tk_o, ms_0_0, ms_0_1, ms_0_2, ms_0_3, ms_0_4, ms_0_5, ms_0_6, ms_0_7, ms_0_8, ms_0_9, ms_0_10, ms_1_0, ms_1_1, ms_1_2, ms_1_3, ms_1_4, ms_1_5, ms_1_6, ms_1_7, ms_1_8, ms_1_9, ms_1_10, ms_w, ms_r, ms_d, ms_M, ms_6, ms_K, pC_row]; done) | (simp (disch := (first | omega | (simp only [tN, tD, tR, sF]; omega))) only [pM, pJ, upM_s, upM_k, upM_c, upJ_s, upJ_k, upJ_c, tk_M, tk_K, tk_0, tk_1, tk_2, tk_3, tk_4, tk_5, tk_6, tk_7, tk_8, tk_9, tk_10, tk_o, ms_0_0, ms_0_1, ms_0_2, ms_0_3, ms_0_4, ms_0_5, ms_0_6, ms_0_7, ms_0_8, ms_0_9, ms_0_10, ms_1_0, ms_1_1, ms_1_2, ms_1_3, ms_1_4, ms_1_5, ms_1_6, ms_1_7, ms_1_8, ms_1_9, ms_1_10, ms_w, ms_r, ms_d, ms_M, ms_6, ms_K, pC_row]))) hI.2.1)) ⟨gl_V q374 q375 q376 q5 q377, by decide +kernel⟩ ⟨rfl, rfl, Nat.le_of_ble_eq_true rfl, Nat.le_of_ble_eq_true rfl⟩ (by decide) (c_R E _) rfl rfl hl.1 rfl (Nat.le_of_ble_eq_true rfl) dX8_plug_113 ⟨Nat.zero_le _, Nat.zero_le _⟩) (fun H locs hw => ?_)
                refine fold_i (y := sp_X8_inside ((pM μ 8 (85 + 29 * a.toNatClampNeg + 13) ((nI (10 * b.toNatClampNeg + w.toNatClampNeg)))).1 8)  (nI (10 * b.toNatClampNeg + 0))) (by first | rfl | (simp [pM, pJ, upM_r, upM_rr, tk_M, tk_K, tk_0, tk_1, tk_2, tk_3, tk_4, tk_5, tk_6, tk_7, tk_8, tk_9, tk_10, tk_o, ms_0_0, ms_0_1, ms_0_2, ms_0_3, ms_0_4, ms_0_5, ms_0_6, ms_0_7, ms_0_8, ms_0_9, ms_0_10, ms_1_0, ms_1_1, ms_1_2, ms_1_3, ms_1_4, ms_1_5, ms_1_6, ms_1_7, ms_1_8, ms_1_9, ms_1_10, ms_w, ms_r, ms_d, ms_M, ms_6, ms_K, pC_row]; done)) ?_
                refine lv_iconst (v := (-1)) hx hb dX8_plug_116 (by decide) ?_
                refine lv_icmp_ne (tgt := 124) hx hb dX8_plug_117 (by decide) (fun c32 => ?_) (fun c32 => ?_)
                · refine lv_iconst (v := 1) hx hb dX8_plug_124 (by decide) ?_
                  refine lv_iadd hx hb dX8_plug_125 ?_
                  refine fold_i (show (0 + 1 : Int32) = 1 from by decide) ?_
                  refine lv_istore (lv' := [(4, .int 1), (5, .int 0), (0, .ref (E.1 (232))), (1, .int (a)), (2, .int (b)), (3, .int (w))]) hx hb dX8_plug_126 hl (by decide) rfl (fun ls hl => ?_)
                  refine lv_iinc (v := 1) (lv' := [(5, .int 1), (4, .int 1), (0, .ref (E.1 (232))), (1, .int (a)), (2, .int (b)), (3, .int (w))]) hx hb dX8_plug_128 hl (k := 1) rfl (by decide) (by decide) rfl (fun ls hl => ?_)
                  refine lv_goto (tgt := 97) hx hb dX8_plug_131 (by decide) ?_
                  refine lv_iload hx hb dX8_plug_97 (lv_at hl 0 rfl) ?_
                  refine lv_iconst (v := 3) hx hb dX8_plug_99 (by decide) ?_
                  refine lv_icmp_ge (tgt := 134) hx hb dX8_plug_100 (by decide) (fun c => absurd c (by decide)) (fun _ => ?_)
                  refine lv_iload hx hb dX8_plug_103 (lv_at hl 1 rfl) ?_
                  refine lv_aload_n hx hb dX8_plug_105 rfl (lv_at hl 2 rfl) ?_
                  refine lv_bipush (v := 10) hx hb dX8_plug_106 (by decide) ?_
                  refine lv_iload_n hx hb dX8_plug_108 rfl (lv_at hl 4 rfl) ?_
                  refine fold_i (show b = nI (b.toNatClampNeg) from c2a.1) ?_
                  refine lv_imul hx hb dX8_plug_109 ?_
                  refine fold_i (show (10 : Int32) * nI (b.toNatClampNeg) = nI (10 * b.toNatClampNeg) from pk_mul (10) (b.toNatClampNeg)) ?_
                  refine lv_iload hx hb dX8_plug_110 (lv_at hl 0 rfl) ?_
                  refine lv_iadd hx hb dX8_plug_112 ?_
                  refine fold_i (show nI (10 * b.toNatClampNeg) + (1 : Int32) = nI (10 * b.toNatClampNeg + 1) from nI_add (10 * b.toNatClampNeg) (1)) ?_
                  refine c_iR hw (run_V (As := [.int (nI (10 * b.toNatClampNeg + 1))]) (rest := [.int 1]) (np := 1) hf hw (k_X8_inside l E _  (nI (10 * b.toNatClampNeg + 1))  (cast_ni (show _ = μ.1 8 1 from (by first | (simp [pM, pJ, upM, upJ, sF, tN, tD, tR, tk_M, tk_K, tk_0, tk_1, tk_2, tk_3, tk_4, tk_5, tk_6, tk_7, tk_8, tk_9, tk_10, tk_o, ms_0_0, ms_0_1, ms_0_2, ms_0_3, ms_0_4, ms_0_5, ms_0_6, ms_0_7, ms_0_8, ms_0_9, ms_0_10, ms_1_0, ms_1_1, ms_1_2, ms_1_3, ms_1_4, ms_1_5, ms_1_6, ms_1_7, ms_1_8, ms_1_9, ms_1_10, ms_w, ms_r, ms_d, ms_M, ms_6, ms_K, pC_row]; done) | (simp (disch := (first | omega | (simp only [tN, tD, tR, sF]; omega))) only [pM, pJ, upM_s, upM_k, upM_c, upJ_s, upJ_k, upJ_c, tk_M, tk_K, tk_0, tk_1, tk_2, tk_3, tk_4, tk_5, tk_6, tk_7, tk_8, tk_9, tk_10, tk_o, ms_0_0, ms_0_1, ms_0_2, ms_0_3, ms_0_4, ms_0_5, ms_0_6, ms_0_7, ms_0_8, ms_0_9, ms_0_10, ms_1_0, ms_1_1, ms_1_2, ms_1_3, ms_1_4, ms_1_5, ms_1_6, ms_1_7, ms_1_8, ms_1_9, ms_1_10, ms_w, ms_r, ms_d, ms_M, ms_6, ms_K, pC_row]))) hI.2.1)) ⟨gl_V q374 q375 q376 q5 q377, by decide +kernel⟩ ⟨rfl, rfl, Nat.le_of_ble_eq_true rfl, Nat.le_of_ble_eq_true rfl⟩ (by decide) (c_R E _) rfl rfl hl.1 rfl (Nat.le_of_ble_eq_true rfl) dX8_plug_113 ⟨Nat.zero_le _, Nat.zero_le _⟩) (fun H locs hw => ?_)
                  refine fold_i (y := sp_X8_inside ((pM μ 8 (85 + 29 * a.toNatClampNeg + 13) ((nI (10 * b.toNatClampNeg + w.toNatClampNeg)))).1 8)  (nI (10 * b.toNatClampNeg + 1))) (by first | rfl | (simp [pM, pJ, upM_r, upM_rr, tk_M, tk_K, tk_0, tk_1, tk_2, tk_3, tk_4, tk_5, tk_6, tk_7, tk_8, tk_9, tk_10, tk_o, ms_0_0, ms_0_1, ms_0_2, ms_0_3, ms_0_4, ms_0_5, ms_0_6, ms_0_7, ms_0_8, ms_0_9, ms_0_10, ms_1_0, ms_1_1, ms_1_2, ms_1_3, ms_1_4, ms_1_5, ms_1_6, ms_1_7, ms_1_8, ms_1_9, ms_1_10, ms_w, ms_r, ms_d, ms_M, ms_6, ms_K, pC_row]; done)) ?_
                  refine lv_iconst (v := (-1)) hx hb dX8_plug_116 (by decide) ?_
                  refine lv_icmp_ne (tgt := 124) hx hb dX8_plug_117 (by decide) (fun c34 => ?_) (fun c34 => ?_)
                  · refine lv_iconst (v := 1) hx hb dX8_plug_124 (by decide) ?_
                    refine lv_iadd hx hb dX8_plug_125 ?_
                    refine fold_i (show (1 + 1 : Int32) = 2 from by decide) ?_
                    refine lv_istore (lv' := [(4, .int 2), (5, .int 1), (0, .ref (E.1 (232))), (1, .int (a)), (2, .int (b)), (3, .int (w))]) hx hb dX8_plug_126 hl (by decide) rfl (fun ls hl => ?_)
                    refine lv_iinc (v := 2) (lv' := [(5, .int 2), (4, .int 2), (0, .ref (E.1 (232))), (1, .int (a)), (2, .int (b)), (3, .int (w))]) hx hb dX8_plug_128 hl (k := 1) rfl (by decide) (by decide) rfl (fun ls hl => ?_)
                    refine lv_goto (tgt := 97) hx hb dX8_plug_131 (by decide) ?_
                    refine lv_iload hx hb dX8_plug_97 (lv_at hl 0 rfl) ?_
                    refine lv_iconst (v := 3) hx hb dX8_plug_99 (by decide) ?_
                    refine lv_icmp_ge (tgt := 134) hx hb dX8_plug_100 (by decide) (fun c => absurd c (by decide)) (fun _ => ?_)
                    refine lv_iload hx hb dX8_plug_103 (lv_at hl 1 rfl) ?_
                    refine lv_aload_n hx hb dX8_plug_105 rfl (lv_at hl 2 rfl) ?_
                    refine lv_bipush (v := 10) hx hb dX8_plug_106 (by decide) ?_
                    refine lv_iload_n hx hb dX8_plug_108 rfl (lv_at hl 4 rfl) ?_
                    refine fold_i (show b = nI (b.toNatClampNeg) from c2a.1) ?_
                    refine lv_imul hx hb dX8_plug_109 ?_
                    refine fold_i (show (10 : Int32) * nI (b.toNatClampNeg) = nI (10 * b.toNatClampNeg) from pk_mul (10) (b.toNatClampNeg)) ?_
                    refine lv_iload hx hb dX8_plug_110 (lv_at hl 0 rfl) ?_
                    refine lv_iadd hx hb dX8_plug_112 ?_
                    refine fold_i (show nI (10 * b.toNatClampNeg) + (2 : Int32) = nI (10 * b.toNatClampNeg + 2) from nI_add (10 * b.toNatClampNeg) (2)) ?_
                    refine c_iR hw (run_V (As := [.int (nI (10 * b.toNatClampNeg + 2))]) (rest := [.int 2]) (np := 1) hf hw (k_X8_inside l E _  (nI (10 * b.toNatClampNeg + 2))  (cast_ni (show _ = μ.1 8 1 from (by first | (simp [pM, pJ, upM, upJ, sF, tN, tD, tR, tk_M, tk_K, tk_0, tk_1, tk_2, tk_3, tk_4, tk_5, tk_6, tk_7, tk_8, tk_9, tk_10, tk_o, ms_0_0, ms_0_1, ms_0_2, ms_0_3, ms_0_4, ms_0_5, ms_0_6, ms_0_7, ms_0_8, ms_0_9, ms_0_10, ms_1_0, ms_1_1, ms_1_2, ms_1_3, ms_1_4, ms_1_5, ms_1_6, ms_1_7, ms_1_8, ms_1_9, ms_1_10, ms_w, ms_r, ms_d, ms_M, ms_6, ms_K, pC_row]; done) | (simp (disch := (first | omega | (simp only [tN, tD, tR, sF]; omega))) only [pM, pJ, upM_s, upM_k, upM_c, upJ_s, upJ_k, upJ_c, tk_M, tk_K, tk_0, tk_1, tk_2, tk_3, tk_4, tk_5, tk_6, tk_7, tk_8, tk_9, tk_10, tk_o, ms_0_0, ms_0_1, ms_0_2, ms_0_3, ms_0_4, ms_0_5, ms_0_6, ms_0_7, ms_0_8, ms_0_9, ms_0_10, ms_1_0, ms_1_1, ms_1_2, ms_1_3, ms_1_4, ms_1_5, ms_1_6, ms_1_7, ms_1_8, ms_1_9, ms_1_10, ms_w, ms_r, ms_d, ms_M, ms_6, ms_K, pC_row]))) hI.2.1)) ⟨gl_V q374 q375 q376 q5 q377, by decide +kernel⟩ ⟨rfl, rfl, Nat.le_of_ble_eq_true rfl, Nat.le_of_ble_eq_true rfl⟩ (by decide) (c_R E _) rfl rfl hl.1 rfl (Nat.le_of_ble_eq_true rfl) dX8_plug_113 ⟨Nat.zero_le _, Nat.zero_le _⟩) (fun H locs hw => ?_)
                    refine fold_i (y := sp_X8_inside ((pM μ 8 (85 + 29 * a.toNatClampNeg + 13) ((nI (10 * b.toNatClampNeg + w.toNatClampNeg)))).1 8)  (nI (10 * b.toNatClampNeg + 2))) (by first | rfl | (simp [pM, pJ, upM_r, upM_rr, tk_M, tk_K, tk_0, tk_1, tk_2, tk_3, tk_4, tk_5, tk_6, tk_7, tk_8, tk_9, tk_10, tk_o, ms_0_0, ms_0_1, ms_0_2, ms_0_3, ms_0_4, ms_0_5, ms_0_6, ms_0_7, ms_0_8, ms_0_9, ms_0_10, ms_1_0, ms_1_1, ms_1_2, ms_1_3, ms_1_4, ms_1_5, ms_1_6, ms_1_7, ms_1_8, ms_1_9, ms_1_10, ms_w, ms_r, ms_d, ms_M, ms_6, ms_K, pC_row]; done)) ?_
                    refine lv_iconst (v := (-1)) hx hb dX8_plug_116 (by decide) ?_
                    refine lv_icmp_ne (tgt := 124) hx hb dX8_plug_117 (by decide) (fun c36 => ?_) (fun c36 => ?_)
                    · refine lv_iconst (v := 1) hx hb dX8_plug_124 (by decide) ?_
                      refine lv_iadd hx hb dX8_plug_125 ?_
                      refine fold_i (show (2 + 1 : Int32) = 3 from by decide) ?_
                      refine lv_istore (lv' := [(4, .int 3), (5, .int 2), (0, .ref (E.1 (232))), (1, .int (a)), (2, .int (b)), (3, .int (w))]) hx hb dX8_plug_126 hl (by decide) rfl (fun ls hl => ?_)
                      refine lv_iinc (v := 3) (lv' := [(5, .int 3), (4, .int 3), (0, .ref (E.1 (232))), (1, .int (a)), (2, .int (b)), (3, .int (w))]) hx hb dX8_plug_128 hl (k := 1) rfl (by decide) (by decide) rfl (fun ls hl => ?_)
                      refine lv_goto (tgt := 97) hx hb dX8_plug_131 (by decide) ?_
                      refine lv_iload hx hb dX8_plug_97 (lv_at hl 0 rfl) ?_
                      refine lv_iconst (v := 3) hx hb dX8_plug_99 (by decide) ?_
                      refine lv_icmp_ge (tgt := 134) hx hb dX8_plug_100 (by decide) (fun _ => ?_) (fun c => absurd c (by decide))
                      refine lv_aload_n hx hb dX8_plug_134 rfl (lv_at hl 2 rfl) ?_
                      refine lv_iload hx hb dX8_plug_135 (lv_at hl 1 rfl) ?_
                      refine c_i hw (run_V (As := [.int 3]) (rest := []) (np := 1) hf hw (k_X8_acted l E _  (3 : Int32)  (s7_ni (x := μ.1 7 0) (s7_pM (by decide) (s7_pC (by decide) (rfl : S7 (μ.1 7 0) μ))) hst)) ⟨gl_V q150 q151 q152 q5 q153, by decide +kernel⟩ ⟨rfl, rfl, Nat.le_of_ble_eq_true rfl, Nat.le_of_ble_eq_true rfl⟩ (by decide) (c_R E _) rfl rfl hl.1 rfl (Nat.le_of_ble_eq_true rfl) dX8_plug_137 ⟨Nat.zero_le _, Nat.zero_le _⟩) (fun H locs hw => ?_)
                      exact e_i hf hr hlocks hw rfl ((if_pos c1).trans ((if_pos c2).trans ((if_pos c3).trans ((if_pos c4).trans ((if_pos c5).trans ((if_neg c6).trans ((if_pos c30).trans ((if_neg c32).trans ((if_neg c34).trans ((if_neg c36).trans rfl)))))))))) dX8_plug_140
                    · refine lv_iconst (v := 0) hx hb dX8_plug_120 (by decide) ?_
                      refine lv_goto (tgt := 125) hx hb dX8_plug_121 (by decide) ?_
                      refine lv_iadd hx hb dX8_plug_125 ?_
                      refine fold_i (show (2 + 0 : Int32) = 2 from by decide) ?_
                      refine lv_istore (lv' := [(4, .int 2), (5, .int 2), (0, .ref (E.1 (232))), (1, .int (a)), (2, .int (b)), (3, .int (w))]) hx hb dX8_plug_126 hl (by decide) rfl (fun ls hl => ?_)
                      refine lv_iinc (v := 3) (lv' := [(5, .int 3), (4, .int 2), (0, .ref (E.1 (232))), (1, .int (a)), (2, .int (b)), (3, .int (w))]) hx hb dX8_plug_128 hl (k := 1) rfl (by decide) (by decide) rfl (fun ls hl => ?_)
                      refine lv_goto (tgt := 97) hx hb dX8_plug_131 (by decide) ?_
                      refine lv_iload hx hb dX8_plug_97 (lv_at hl 0 rfl) ?_
                      refine lv_iconst (v := 3) hx hb dX8_plug_99 (by decide) ?_
                      refine lv_icmp_ge (tgt := 134) hx hb dX8_plug_100 (by decide) (fun _ => ?_) (fun c => absurd c (by decide))
                      refine lv_aload_n hx hb dX8_plug_134 rfl (lv_at hl 2 rfl) ?_
                      refine lv_iload hx hb dX8_plug_135 (lv_at hl 1 rfl) ?_
                      refine c_i hw (run_V (As := [.int 2]) (rest := []) (np := 1) hf hw (k_X8_acted l E _  (2 : Int32)  (s7_ni (x := μ.1 7 0) (s7_pM (by decide) (s7_pC (by decide) (rfl : S7 (μ.1 7 0) μ))) hst)) ⟨gl_V q150 q151 q152 q5 q153, by decide +kernel⟩ ⟨rfl, rfl, Nat.le_of_ble_eq_true rfl, Nat.le_of_ble_eq_true rfl⟩ (by decide) (c_R E _) rfl rfl hl.1 rfl (Nat.le_of_ble_eq_true rfl) dX8_plug_137 ⟨Nat.zero_le _, Nat.zero_le _⟩) (fun H locs hw => ?_)
                      exact e_i hf hr hlocks hw rfl ((if_pos c1).trans ((if_pos c2).trans ((if_pos c3).trans ((if_pos c4).trans ((if_pos c5).trans ((if_neg c6).trans ((if_pos c30).trans ((if_neg c32).trans ((if_neg c34).trans ((if_pos c36).trans rfl)))))))))) dX8_plug_140
                  · refine lv_iconst (v := 0) hx hb dX8_plug_120 (by decide) ?_
                    refine lv_goto (tgt := 125) hx hb dX8_plug_121 (by decide) ?_
                    refine lv_iadd hx hb dX8_plug_125 ?_
                    refine fold_i (show (1 + 0 : Int32) = 1 from by decide) ?_
                    refine lv_istore (lv' := [(4, .int 1), (5, .int 1), (0, .ref (E.1 (232))), (1, .int (a)), (2, .int (b)), (3, .int (w))]) hx hb dX8_plug_126 hl (by decide) rfl (fun ls hl => ?_)
                    refine lv_iinc (v := 2) (lv' := [(5, .int 2), (4, .int 1), (0, .ref (E.1 (232))), (1, .int (a)), (2, .int (b)), (3, .int (w))]) hx hb dX8_plug_128 hl (k := 1) rfl (by decide) (by decide) rfl (fun ls hl => ?_)
                    refine lv_goto (tgt := 97) hx hb dX8_plug_131 (by decide) ?_
                    refine lv_iload hx hb dX8_plug_97 (lv_at hl 0 rfl) ?_
                    refine lv_iconst (v := 3) hx hb dX8_plug_99 (by decide) ?_
                    refine lv_icmp_ge (tgt := 134) hx hb dX8_plug_100 (by decide) (fun c => absurd c (by decide)) (fun _ => ?_)
                    refine lv_iload hx hb dX8_plug_103 (lv_at hl 1 rfl) ?_
                    refine lv_aload_n hx hb dX8_plug_105 rfl (lv_at hl 2 rfl) ?_
                    refine lv_bipush (v := 10) hx hb dX8_plug_106 (by decide) ?_
                    refine lv_iload_n hx hb dX8_plug_108 rfl (lv_at hl 4 rfl) ?_
                    refine fold_i (show b = nI (b.toNatClampNeg) from c2a.1) ?_
                    refine lv_imul hx hb dX8_plug_109 ?_
                    refine fold_i (show (10 : Int32) * nI (b.toNatClampNeg) = nI (10 * b.toNatClampNeg) from pk_mul (10) (b.toNatClampNeg)) ?_
                    refine lv_iload hx hb dX8_plug_110 (lv_at hl 0 rfl) ?_
                    refine lv_iadd hx hb dX8_plug_112 ?_
                    refine fold_i (show nI (10 * b.toNatClampNeg) + (2 : Int32) = nI (10 * b.toNatClampNeg + 2) from nI_add (10 * b.toNatClampNeg) (2)) ?_
                    refine c_iR hw (run_V (As := [.int (nI (10 * b.toNatClampNeg + 2))]) (rest := [.int 1]) (np := 1) hf hw (k_X8_inside l E _  (nI (10 * b.toNatClampNeg + 2))  (cast_ni (show _ = μ.1 8 1 from (by first | (simp [pM, pJ, upM, upJ, sF, tN, tD, tR, tk_M, tk_K, tk_0, tk_1, tk_2, tk_3, tk_4, tk_5, tk_6, tk_7, tk_8, tk_9, tk_10, tk_o, ms_0_0, ms_0_1, ms_0_2, ms_0_3, ms_0_4, ms_0_5, ms_0_6, ms_0_7, ms_0_8, ms_0_9, ms_0_10, ms_1_0, ms_1_1, ms_1_2, ms_1_3, ms_1_4, ms_1_5, ms_1_6, ms_1_7, ms_1_8, ms_1_9, ms_1_10, ms_w, ms_r, ms_d, ms_M, ms_6, ms_K, pC_row]; done) | (simp (disch := (first | omega | (simp only [tN, tD, tR, sF]; omega))) only [pM, pJ, upM_s, upM_k, upM_c, upJ_s, upJ_k, upJ_c, tk_M, tk_K, tk_0, tk_1, tk_2, tk_3, tk_4, tk_5, tk_6, tk_7, tk_8, tk_9, tk_10, tk_o, ms_0_0, ms_0_1, ms_0_2, ms_0_3, ms_0_4, ms_0_5, ms_0_6, ms_0_7, ms_0_8, ms_0_9, ms_0_10, ms_1_0, ms_1_1, ms_1_2, ms_1_3, ms_1_4, ms_1_5, ms_1_6, ms_1_7, ms_1_8, ms_1_9, ms_1_10, ms_w, ms_r, ms_d, ms_M, ms_6, ms_K, pC_row]))) hI.2.1)) ⟨gl_V q374 q375 q376 q5 q377, by decide +kernel⟩ ⟨rfl, rfl, Nat.le_of_ble_eq_true rfl, Nat.le_of_ble_eq_true rfl⟩ (by decide) (c_R E _) rfl rfl hl.1 rfl (Nat.le_of_ble_eq_true rfl) dX8_plug_113 ⟨Nat.zero_le _, Nat.zero_le _⟩) (fun H locs hw => ?_)
                    refine fold_i (y := sp_X8_inside ((pM μ 8 (85 + 29 * a.toNatClampNeg + 13) ((nI (10 * b.toNatClampNeg + w.toNatClampNeg)))).1 8)  (nI (10 * b.toNatClampNeg + 2))) (by first | rfl | (simp [pM, pJ, upM_r, upM_rr, tk_M, tk_K, tk_0, tk_1, tk_2, tk_3, tk_4, tk_5, tk_6, tk_7, tk_8, tk_9, tk_10, tk_o, ms_0_0, ms_0_1, ms_0_2, ms_0_3, ms_0_4, ms_0_5, ms_0_6, ms_0_7, ms_0_8, ms_0_9, ms_0_10, ms_1_0, ms_1_1, ms_1_2, ms_1_3, ms_1_4, ms_1_5, ms_1_6, ms_1_7, ms_1_8, ms_1_9, ms_1_10, ms_w, ms_r, ms_d, ms_M, ms_6, ms_K, pC_row]; done)) ?_
                    refine lv_iconst (v := (-1)) hx hb dX8_plug_116 (by decide) ?_
                    refine lv_icmp_ne (tgt := 124) hx hb dX8_plug_117 (by decide) (fun c40 => ?_) (fun c40 => ?_)
                    · refine lv_iconst (v := 1) hx hb dX8_plug_124 (by decide) ?_
                      refine lv_iadd hx hb dX8_plug_125 ?_
                      refine fold_i (show (1 + 1 : Int32) = 2 from by decide) ?_
                      refine lv_istore (lv' := [(4, .int 2), (5, .int 2), (0, .ref (E.1 (232))), (1, .int (a)), (2, .int (b)), (3, .int (w))]) hx hb dX8_plug_126 hl (by decide) rfl (fun ls hl => ?_)
                      refine lv_iinc (v := 3) (lv' := [(5, .int 3), (4, .int 2), (0, .ref (E.1 (232))), (1, .int (a)), (2, .int (b)), (3, .int (w))]) hx hb dX8_plug_128 hl (k := 1) rfl (by decide) (by decide) rfl (fun ls hl => ?_)
                      refine lv_goto (tgt := 97) hx hb dX8_plug_131 (by decide) ?_
                      refine lv_iload hx hb dX8_plug_97 (lv_at hl 0 rfl) ?_
                      refine lv_iconst (v := 3) hx hb dX8_plug_99 (by decide) ?_
                      refine lv_icmp_ge (tgt := 134) hx hb dX8_plug_100 (by decide) (fun _ => ?_) (fun c => absurd c (by decide))
                      refine lv_aload_n hx hb dX8_plug_134 rfl (lv_at hl 2 rfl) ?_
                      refine lv_iload hx hb dX8_plug_135 (lv_at hl 1 rfl) ?_
                      refine c_i hw (run_V (As := [.int 2]) (rest := []) (np := 1) hf hw (k_X8_acted l E _  (2 : Int32)  (s7_ni (x := μ.1 7 0) (s7_pM (by decide) (s7_pC (by decide) (rfl : S7 (μ.1 7 0) μ))) hst)) ⟨gl_V q150 q151 q152 q5 q153, by decide +kernel⟩ ⟨rfl, rfl, Nat.le_of_ble_eq_true rfl, Nat.le_of_ble_eq_true rfl⟩ (by decide) (c_R E _) rfl rfl hl.1 rfl (Nat.le_of_ble_eq_true rfl) dX8_plug_137 ⟨Nat.zero_le _, Nat.zero_le _⟩) (fun H locs hw => ?_)
                      exact e_i hf hr hlocks hw rfl ((if_pos c1).trans ((if_pos c2).trans ((if_pos c3).trans ((if_pos c4).trans ((if_pos c5).trans ((if_neg c6).trans ((if_pos c30).trans ((if_neg c32).trans ((if_pos c34).trans ((if_neg c40).trans rfl)))))))))) dX8_plug_140
                    · refine lv_iconst (v := 0) hx hb dX8_plug_120 (by decide) ?_
                      refine lv_goto (tgt := 125) hx hb dX8_plug_121 (by decide) ?_
                      refine lv_iadd hx hb dX8_plug_125 ?_
                      refine fold_i (show (1 + 0 : Int32) = 1 from by decide) ?_
                      refine lv_istore (lv' := [(4, .int 1), (5, .int 2), (0, .ref (E.1 (232))), (1, .int (a)), (2, .int (b)), (3, .int (w))]) hx hb dX8_plug_126 hl (by decide) rfl (fun ls hl => ?_)
                      refine lv_iinc (v := 3) (lv' := [(5, .int 3), (4, .int 1), (0, .ref (E.1 (232))), (1, .int (a)), (2, .int (b)), (3, .int (w))]) hx hb dX8_plug_128 hl (k := 1) rfl (by decide) (by decide) rfl (fun ls hl => ?_)
                      refine lv_goto (tgt := 97) hx hb dX8_plug_131 (by decide) ?_
                      refine lv_iload hx hb dX8_plug_97 (lv_at hl 0 rfl) ?_
                      refine lv_iconst (v := 3) hx hb dX8_plug_99 (by decide) ?_
                      refine lv_icmp_ge (tgt := 134) hx hb dX8_plug_100 (by decide) (fun _ => ?_) (fun c => absurd c (by decide))
                      refine lv_aload_n hx hb dX8_plug_134 rfl (lv_at hl 2 rfl) ?_
                      refine lv_iload hx hb dX8_plug_135 (lv_at hl 1 rfl) ?_
                      refine c_i hw (run_V (As := [.int 1]) (rest := []) (np := 1) hf hw (k_X8_acted l E _  (1 : Int32)  (s7_ni (x := μ.1 7 0) (s7_pM (by decide) (s7_pC (by decide) (rfl : S7 (μ.1 7 0) μ))) hst)) ⟨gl_V q150 q151 q152 q5 q153, by decide +kernel⟩ ⟨rfl, rfl, Nat.le_of_ble_eq_true rfl, Nat.le_of_ble_eq_true rfl⟩ (by decide) (c_R E _) rfl rfl hl.1 rfl (Nat.le_of_ble_eq_true rfl) dX8_plug_137 ⟨Nat.zero_le _, Nat.zero_le _⟩) (fun H locs hw => ?_)
                      exact e_i hf hr hlocks hw rfl ((if_pos c1).trans ((if_pos c2).trans ((if_pos c3).trans ((if_pos c4).trans ((if_pos c5).trans ((if_neg c6).trans ((if_pos c30).trans ((if_neg c32).trans ((if_pos c34).trans ((if_pos c40).trans rfl)))))))))) dX8_plug_140
                · refine lv_iconst (v := 0) hx hb dX8_plug_120 (by decide) ?_
                  refine lv_goto (tgt := 125) hx hb dX8_plug_121 (by decide) ?_
                  refine lv_iadd hx hb dX8_plug_125 ?_
                  refine fold_i (show (0 + 0 : Int32) = 0 from by decide) ?_
                  refine lv_istore (lv' := [(4, .int 0), (5, .int 0), (0, .ref (E.1 (232))), (1, .int (a)), (2, .int (b)), (3, .int (w))]) hx hb dX8_plug_126 hl (by decide) rfl (fun ls hl => ?_)
                  refine lv_iinc (v := 1) (lv' := [(5, .int 1), (4, .int 0), (0, .ref (E.1 (232))), (1, .int (a)), (2, .int (b)), (3, .int (w))]) hx hb dX8_plug_128 hl (k := 1) rfl (by decide) (by decide) rfl (fun ls hl => ?_)
                  refine lv_goto (tgt := 97) hx hb dX8_plug_131 (by decide) ?_
                  refine lv_iload hx hb dX8_plug_97 (lv_at hl 0 rfl) ?_
                  refine lv_iconst (v := 3) hx hb dX8_plug_99 (by decide) ?_
                  refine lv_icmp_ge (tgt := 134) hx hb dX8_plug_100 (by decide) (fun c => absurd c (by decide)) (fun _ => ?_)
                  refine lv_iload hx hb dX8_plug_103 (lv_at hl 1 rfl) ?_
                  refine lv_aload_n hx hb dX8_plug_105 rfl (lv_at hl 2 rfl) ?_
                  refine lv_bipush (v := 10) hx hb dX8_plug_106 (by decide) ?_
                  refine lv_iload_n hx hb dX8_plug_108 rfl (lv_at hl 4 rfl) ?_
                  refine fold_i (show b = nI (b.toNatClampNeg) from c2a.1) ?_
                  refine lv_imul hx hb dX8_plug_109 ?_
                  refine fold_i (show (10 : Int32) * nI (b.toNatClampNeg) = nI (10 * b.toNatClampNeg) from pk_mul (10) (b.toNatClampNeg)) ?_
                  refine lv_iload hx hb dX8_plug_110 (lv_at hl 0 rfl) ?_
                  refine lv_iadd hx hb dX8_plug_112 ?_
                  refine fold_i (show nI (10 * b.toNatClampNeg) + (1 : Int32) = nI (10 * b.toNatClampNeg + 1) from nI_add (10 * b.toNatClampNeg) (1)) ?_
                  refine c_iR hw (run_V (As := [.int (nI (10 * b.toNatClampNeg + 1))]) (rest := [.int 0]) (np := 1) hf hw (k_X8_inside l E _  (nI (10 * b.toNatClampNeg + 1))  (cast_ni (show _ = μ.1 8 1 from (by first | (simp [pM, pJ, upM, upJ, sF, tN, tD, tR, tk_M, tk_K, tk_0, tk_1, tk_2, tk_3, tk_4, tk_5, tk_6, tk_7, tk_8, tk_9, tk_10, tk_o, ms_0_0, ms_0_1, ms_0_2, ms_0_3, ms_0_4, ms_0_5, ms_0_6, ms_0_7, ms_0_8, ms_0_9, ms_0_10, ms_1_0, ms_1_1, ms_1_2, ms_1_3, ms_1_4, ms_1_5, ms_1_6, ms_1_7, ms_1_8, ms_1_9, ms_1_10, ms_w, ms_r, ms_d, ms_M, ms_6, ms_K, pC_row]; done) | (simp (disch := (first | omega | (simp only [tN, tD, tR, sF]; omega))) only [pM, pJ, upM_s, upM_k, upM_c, upJ_s, upJ_k, upJ_c, tk_M, tk_K, tk_0, tk_1, tk_2, tk_3, tk_4, tk_5, tk_6, tk_7, tk_8, tk_9, tk_10, tk_o, ms_0_0, ms_0_1, ms_0_2, ms_0_3, ms_0_4, ms_0_5, ms_0_6, ms_0_7, ms_0_8, ms_0_9, ms_0_10, ms_1_0, ms_1_1, ms_1_2, ms_1_3, ms_1_4, ms_1_5, ms_1_6, ms_1_7, ms_1_8, ms_1_9, ms_1_10, ms_w, ms_r, ms_d, ms_M, ms_6, ms_K, pC_row]))) hI.2.1)) ⟨gl_V q374 q375 q376 q5 q377, by decide +kernel⟩ ⟨rfl, rfl, Nat.le_of_ble_eq_true rfl, Nat.le_of_ble_eq_true rfl⟩ (by decide) (c_R E _) rfl rfl hl.1 rfl (Nat.le_of_ble_eq_true rfl) dX8_plug_113 ⟨Nat.zero_le _, Nat.zero_le _⟩) (fun H locs hw => ?_)
                  refine fold_i (y := sp_X8_inside ((pM μ 8 (85 + 29 * a.toNatClampNeg + 13) ((nI (10 * b.toNatClampNeg + w.toNatClampNeg)))).1 8)  (nI (10 * b.toNatClampNeg + 1))) (by first | rfl | (simp [pM, pJ, upM_r, upM_rr, tk_M, tk_K, tk_0, tk_1, tk_2, tk_3, tk_4, tk_5, tk_6, tk_7, tk_8, tk_9, tk_10, tk_o, ms_0_0, ms_0_1, ms_0_2, ms_0_3, ms_0_4, ms_0_5, ms_0_6, ms_0_7, ms_0_8, ms_0_9, ms_0_10, ms_1_0, ms_1_1, ms_1_2, ms_1_3, ms_1_4, ms_1_5, ms_1_6, ms_1_7, ms_1_8, ms_1_9, ms_1_10, ms_w, ms_r, ms_d, ms_M, ms_6, ms_K, pC_row]; done)) ?_
                  refine lv_iconst (v := (-1)) hx hb dX8_plug_116 (by decide) ?_
                  refine lv_icmp_ne (tgt := 124) hx hb dX8_plug_117 (by decide) (fun c44 => ?_) (fun c44 => ?_)
                  · refine lv_iconst (v := 1) hx hb dX8_plug_124 (by decide) ?_
                    refine lv_iadd hx hb dX8_plug_125 ?_
                    refine fold_i (show (0 + 1 : Int32) = 1 from by decide) ?_
                    refine lv_istore (lv' := [(4, .int 1), (5, .int 1), (0, .ref (E.1 (232))), (1, .int (a)), (2, .int (b)), (3, .int (w))]) hx hb dX8_plug_126 hl (by decide) rfl (fun ls hl => ?_)
                    refine lv_iinc (v := 2) (lv' := [(5, .int 2), (4, .int 1), (0, .ref (E.1 (232))), (1, .int (a)), (2, .int (b)), (3, .int (w))]) hx hb dX8_plug_128 hl (k := 1) rfl (by decide) (by decide) rfl (fun ls hl => ?_)
                    refine lv_goto (tgt := 97) hx hb dX8_plug_131 (by decide) ?_
                    refine lv_iload hx hb dX8_plug_97 (lv_at hl 0 rfl) ?_
                    refine lv_iconst (v := 3) hx hb dX8_plug_99 (by decide) ?_
                    refine lv_icmp_ge (tgt := 134) hx hb dX8_plug_100 (by decide) (fun c => absurd c (by decide)) (fun _ => ?_)
                    refine lv_iload hx hb dX8_plug_103 (lv_at hl 1 rfl) ?_
                    refine lv_aload_n hx hb dX8_plug_105 rfl (lv_at hl 2 rfl) ?_
                    refine lv_bipush (v := 10) hx hb dX8_plug_106 (by decide) ?_
                    refine lv_iload_n hx hb dX8_plug_108 rfl (lv_at hl 4 rfl) ?_
                    refine fold_i (show b = nI (b.toNatClampNeg) from c2a.1) ?_
                    refine lv_imul hx hb dX8_plug_109 ?_
                    refine fold_i (show (10 : Int32) * nI (b.toNatClampNeg) = nI (10 * b.toNatClampNeg) from pk_mul (10) (b.toNatClampNeg)) ?_
                    refine lv_iload hx hb dX8_plug_110 (lv_at hl 0 rfl) ?_
                    refine lv_iadd hx hb dX8_plug_112 ?_
                    refine fold_i (show nI (10 * b.toNatClampNeg) + (2 : Int32) = nI (10 * b.toNatClampNeg + 2) from nI_add (10 * b.toNatClampNeg) (2)) ?_
                    refine c_iR hw (run_V (As := [.int (nI (10 * b.toNatClampNeg + 2))]) (rest := [.int 1]) (np := 1) hf hw (k_X8_inside l E _  (nI (10 * b.toNatClampNeg + 2))  (cast_ni (show _ = μ.1 8 1 from (by first | (simp [pM, pJ, upM, upJ, sF, tN, tD, tR, tk_M, tk_K, tk_0, tk_1, tk_2, tk_3, tk_4, tk_5, tk_6, tk_7, tk_8, tk_9, tk_10, tk_o, ms_0_0, ms_0_1, ms_0_2, ms_0_3, ms_0_4, ms_0_5, ms_0_6, ms_0_7, ms_0_8, ms_0_9, ms_0_10, ms_1_0, ms_1_1, ms_1_2, ms_1_3, ms_1_4, ms_1_5, ms_1_6, ms_1_7, ms_1_8, ms_1_9, ms_1_10, ms_w, ms_r, ms_d, ms_M, ms_6, ms_K, pC_row]; done) | (simp (disch := (first | omega | (simp only [tN, tD, tR, sF]; omega))) only [pM, pJ, upM_s, upM_k, upM_c, upJ_s, upJ_k, upJ_c, tk_M, tk_K, tk_0, tk_1, tk_2, tk_3, tk_4, tk_5, tk_6, tk_7, tk_8, tk_9, tk_10, tk_o, ms_0_0, ms_0_1, ms_0_2, ms_0_3, ms_0_4, ms_0_5, ms_0_6, ms_0_7, ms_0_8, ms_0_9, ms_0_10, ms_1_0, ms_1_1, ms_1_2, ms_1_3, ms_1_4, ms_1_5, ms_1_6, ms_1_7, ms_1_8, ms_1_9, ms_1_10, ms_w, ms_r, ms_d, ms_M, ms_6, ms_K, pC_row]))) hI.2.1)) ⟨gl_V q374 q375 q376 q5 q377, by decide +kernel⟩ ⟨rfl, rfl, Nat.le_of_ble_eq_true rfl, Nat.le_of_ble_eq_true rfl⟩ (by decide) (c_R E _) rfl rfl hl.1 rfl (Nat.le_of_ble_eq_true rfl) dX8_plug_113 ⟨Nat.zero_le _, Nat.zero_le _⟩) (fun H locs hw => ?_)
                    refine fold_i (y := sp_X8_inside ((pM μ 8 (85 + 29 * a.toNatClampNeg + 13) ((nI (10 * b.toNatClampNeg + w.toNatClampNeg)))).1 8)  (nI (10 * b.toNatClampNeg + 2))) (by first | rfl | (simp [pM, pJ, upM_r, upM_rr, tk_M, tk_K, tk_0, tk_1, tk_2, tk_3, tk_4, tk_5, tk_6, tk_7, tk_8, tk_9, tk_10, tk_o, ms_0_0, ms_0_1, ms_0_2, ms_0_3, ms_0_4, ms_0_5, ms_0_6, ms_0_7, ms_0_8, ms_0_9, ms_0_10, ms_1_0, ms_1_1, ms_1_2, ms_1_3, ms_1_4, ms_1_5, ms_1_6, ms_1_7, ms_1_8, ms_1_9, ms_1_10, ms_w, ms_r, ms_d, ms_M, ms_6, ms_K, pC_row]; done)) ?_
                    refine lv_iconst (v := (-1)) hx hb dX8_plug_116 (by decide) ?_
                    refine lv_icmp_ne (tgt := 124) hx hb dX8_plug_117 (by decide) (fun c46 => ?_) (fun c46 => ?_)
                    · refine lv_iconst (v := 1) hx hb dX8_plug_124 (by decide) ?_
                      refine lv_iadd hx hb dX8_plug_125 ?_
                      refine fold_i (show (1 + 1 : Int32) = 2 from by decide) ?_
                      refine lv_istore (lv' := [(4, .int 2), (5, .int 2), (0, .ref (E.1 (232))), (1, .int (a)), (2, .int (b)), (3, .int (w))]) hx hb dX8_plug_126 hl (by decide) rfl (fun ls hl => ?_)
                      refine lv_iinc (v := 3) (lv' := [(5, .int 3), (4, .int 2), (0, .ref (E.1 (232))), (1, .int (a)), (2, .int (b)), (3, .int (w))]) hx hb dX8_plug_128 hl (k := 1) rfl (by decide) (by decide) rfl (fun ls hl => ?_)
                      refine lv_goto (tgt := 97) hx hb dX8_plug_131 (by decide) ?_
                      refine lv_iload hx hb dX8_plug_97 (lv_at hl 0 rfl) ?_
                      refine lv_iconst (v := 3) hx hb dX8_plug_99 (by decide) ?_
                      refine lv_icmp_ge (tgt := 134) hx hb dX8_plug_100 (by decide) (fun _ => ?_) (fun c => absurd c (by decide))
                      refine lv_aload_n hx hb dX8_plug_134 rfl (lv_at hl 2 rfl) ?_
                      refine lv_iload hx hb dX8_plug_135 (lv_at hl 1 rfl) ?_
                      refine c_i hw (run_V (As := [.int 2]) (rest := []) (np := 1) hf hw (k_X8_acted l E _  (2 : Int32)  (s7_ni (x := μ.1 7 0) (s7_pM (by decide) (s7_pC (by decide) (rfl : S7 (μ.1 7 0) μ))) hst)) ⟨gl_V q150 q151 q152 q5 q153, by decide +kernel⟩ ⟨rfl, rfl, Nat.le_of_ble_eq_true rfl, Nat.le_of_ble_eq_true rfl⟩ (by decide) (c_R E _) rfl rfl hl.1 rfl (Nat.le_of_ble_eq_true rfl) dX8_plug_137 ⟨Nat.zero_le _, Nat.zero_le _⟩) (fun H locs hw => ?_)
                      exact e_i hf hr hlocks hw rfl ((if_pos c1).trans ((if_pos c2).trans ((if_pos c3).trans ((if_pos c4).trans ((if_pos c5).trans ((if_neg c6).trans ((if_pos c30).trans ((if_pos c32).trans ((if_neg c44).trans ((if_neg c46).trans rfl)))))))))) dX8_plug_140
                    · refine lv_iconst (v := 0) hx hb dX8_plug_120 (by decide) ?_
                      refine lv_goto (tgt := 125) hx hb dX8_plug_121 (by decide) ?_
                      refine lv_iadd hx hb dX8_plug_125 ?_
                      refine fold_i (show (1 + 0 : Int32) = 1 from by decide) ?_
                      refine lv_istore (lv' := [(4, .int 1), (5, .int 2), (0, .ref (E.1 (232))), (1, .int (a)), (2, .int (b)), (3, .int (w))]) hx hb dX8_plug_126 hl (by decide) rfl (fun ls hl => ?_)
                      refine lv_iinc (v := 3) (lv' := [(5, .int 3), (4, .int 1), (0, .ref (E.1 (232))), (1, .int (a)), (2, .int (b)), (3, .int (w))]) hx hb dX8_plug_128 hl (k := 1) rfl (by decide) (by decide) rfl (fun ls hl => ?_)
                      refine lv_goto (tgt := 97) hx hb dX8_plug_131 (by decide) ?_
                      refine lv_iload hx hb dX8_plug_97 (lv_at hl 0 rfl) ?_
                      refine lv_iconst (v := 3) hx hb dX8_plug_99 (by decide) ?_
                      refine lv_icmp_ge (tgt := 134) hx hb dX8_plug_100 (by decide) (fun _ => ?_) (fun c => absurd c (by decide))
                      refine lv_aload_n hx hb dX8_plug_134 rfl (lv_at hl 2 rfl) ?_
                      refine lv_iload hx hb dX8_plug_135 (lv_at hl 1 rfl) ?_
                      refine c_i hw (run_V (As := [.int 1]) (rest := []) (np := 1) hf hw (k_X8_acted l E _  (1 : Int32)  (s7_ni (x := μ.1 7 0) (s7_pM (by decide) (s7_pC (by decide) (rfl : S7 (μ.1 7 0) μ))) hst)) ⟨gl_V q150 q151 q152 q5 q153, by decide +kernel⟩ ⟨rfl, rfl, Nat.le_of_ble_eq_true rfl, Nat.le_of_ble_eq_true rfl⟩ (by decide) (c_R E _) rfl rfl hl.1 rfl (Nat.le_of_ble_eq_true rfl) dX8_plug_137 ⟨Nat.zero_le _, Nat.zero_le _⟩) (fun H locs hw => ?_)
                      exact e_i hf hr hlocks hw rfl ((if_pos c1).trans ((if_pos c2).trans ((if_pos c3).trans ((if_pos c4).trans ((if_pos c5).trans ((if_neg c6).trans ((if_pos c30).trans ((if_pos c32).trans ((if_neg c44).trans ((if_pos c46).trans rfl)))))))))) dX8_plug_140
                  · refine lv_iconst (v := 0) hx hb dX8_plug_120 (by decide) ?_
                    refine lv_goto (tgt := 125) hx hb dX8_plug_121 (by decide) ?_
                    refine lv_iadd hx hb dX8_plug_125 ?_
                    refine fold_i (show (0 + 0 : Int32) = 0 from by decide) ?_
                    refine lv_istore (lv' := [(4, .int 0), (5, .int 1), (0, .ref (E.1 (232))), (1, .int (a)), (2, .int (b)), (3, .int (w))]) hx hb dX8_plug_126 hl (by decide) rfl (fun ls hl => ?_)
                    refine lv_iinc (v := 2) (lv' := [(5, .int 2), (4, .int 0), (0, .ref (E.1 (232))), (1, .int (a)), (2, .int (b)), (3, .int (w))]) hx hb dX8_plug_128 hl (k := 1) rfl (by decide) (by decide) rfl (fun ls hl => ?_)
                    refine lv_goto (tgt := 97) hx hb dX8_plug_131 (by decide) ?_
                    refine lv_iload hx hb dX8_plug_97 (lv_at hl 0 rfl) ?_
                    refine lv_iconst (v := 3) hx hb dX8_plug_99 (by decide) ?_
                    refine lv_icmp_ge (tgt := 134) hx hb dX8_plug_100 (by decide) (fun c => absurd c (by decide)) (fun _ => ?_)
                    refine lv_iload hx hb dX8_plug_103 (lv_at hl 1 rfl) ?_
                    refine lv_aload_n hx hb dX8_plug_105 rfl (lv_at hl 2 rfl) ?_
                    refine lv_bipush (v := 10) hx hb dX8_plug_106 (by decide) ?_
                    refine lv_iload_n hx hb dX8_plug_108 rfl (lv_at hl 4 rfl) ?_
                    refine fold_i (show b = nI (b.toNatClampNeg) from c2a.1) ?_
                    refine lv_imul hx hb dX8_plug_109 ?_
                    refine fold_i (show (10 : Int32) * nI (b.toNatClampNeg) = nI (10 * b.toNatClampNeg) from pk_mul (10) (b.toNatClampNeg)) ?_
                    refine lv_iload hx hb dX8_plug_110 (lv_at hl 0 rfl) ?_
                    refine lv_iadd hx hb dX8_plug_112 ?_
                    refine fold_i (show nI (10 * b.toNatClampNeg) + (2 : Int32) = nI (10 * b.toNatClampNeg + 2) from nI_add (10 * b.toNatClampNeg) (2)) ?_
                    refine c_iR hw (run_V (As := [.int (nI (10 * b.toNatClampNeg + 2))]) (rest := [.int 0]) (np := 1) hf hw (k_X8_inside l E _  (nI (10 * b.toNatClampNeg + 2))  (cast_ni (show _ = μ.1 8 1 from (by first | (simp [pM, pJ, upM, upJ, sF, tN, tD, tR, tk_M, tk_K, tk_0, tk_1, tk_2, tk_3, tk_4, tk_5, tk_6, tk_7, tk_8, tk_9, tk_10, tk_o, ms_0_0, ms_0_1, ms_0_2, ms_0_3, ms_0_4, ms_0_5, ms_0_6, ms_0_7, ms_0_8, ms_0_9, ms_0_10, ms_1_0, ms_1_1, ms_1_2, ms_1_3, ms_1_4, ms_1_5, ms_1_6, ms_1_7, ms_1_8, ms_1_9, ms_1_10, ms_w, ms_r, ms_d, ms_M, ms_6, ms_K, pC_row]; done) | (simp (disch := (first | omega | (simp only [tN, tD, tR, sF]; omega))) only [pM, pJ, upM_s, upM_k, upM_c, upJ_s, upJ_k, upJ_c, tk_M, tk_K, tk_0, tk_1, tk_2, tk_3, tk_4, tk_5, tk_6, tk_7, tk_8, tk_9, tk_10, tk_o, ms_0_0, ms_0_1, ms_0_2, ms_0_3, ms_0_4, ms_0_5, ms_0_6, ms_0_7, ms_0_8, ms_0_9, ms_0_10, ms_1_0, ms_1_1, ms_1_2, ms_1_3, ms_1_4, ms_1_5, ms_1_6, ms_1_7, ms_1_8, ms_1_9, ms_1_10, ms_w, ms_r, ms_d, ms_M, ms_6, ms_K, pC_row]))) hI.2.1)) ⟨gl_V q374 q375 q376 q5 q377, by decide +kernel⟩ ⟨rfl, rfl, Nat.le_of_ble_eq_true rfl, Nat.le_of_ble_eq_true rfl⟩ (by decide) (c_R E _) rfl rfl hl.1 rfl (Nat.le_of_ble_eq_true rfl) dX8_plug_113 ⟨Nat.zero_le _, Nat.zero_le _⟩) (fun H locs hw => ?_)
                    refine fold_i (y := sp_X8_inside ((pM μ 8 (85 + 29 * a.toNatClampNeg + 13) ((nI (10 * b.toNatClampNeg + w.toNatClampNeg)))).1 8)  (nI (10 * b.toNatClampNeg + 2))) (by first | rfl | (simp [pM, pJ, upM_r, upM_rr, tk_M, tk_K, tk_0, tk_1, tk_2, tk_3, tk_4, tk_5, tk_6, tk_7, tk_8, tk_9, tk_10, tk_o, ms_0_0, ms_0_1, ms_0_2, ms_0_3, ms_0_4, ms_0_5, ms_0_6, ms_0_7, ms_0_8, ms_0_9, ms_0_10, ms_1_0, ms_1_1, ms_1_2, ms_1_3, ms_1_4, ms_1_5, ms_1_6, ms_1_7, ms_1_8, ms_1_9, ms_1_10, ms_w, ms_r, ms_d, ms_M, ms_6, ms_K, pC_row]; done)) ?_
                    refine lv_iconst (v := (-1)) hx hb dX8_plug_116 (by decide) ?_
                    refine lv_icmp_ne (tgt := 124) hx hb dX8_plug_117 (by decide) (fun c50 => ?_) (fun c50 => ?_)
                    · refine lv_iconst (v := 1) hx hb dX8_plug_124 (by decide) ?_
                      refine lv_iadd hx hb dX8_plug_125 ?_
                      refine fold_i (show (0 + 1 : Int32) = 1 from by decide) ?_
                      refine lv_istore (lv' := [(4, .int 1), (5, .int 2), (0, .ref (E.1 (232))), (1, .int (a)), (2, .int (b)), (3, .int (w))]) hx hb dX8_plug_126 hl (by decide) rfl (fun ls hl => ?_)
                      refine lv_iinc (v := 3) (lv' := [(5, .int 3), (4, .int 1), (0, .ref (E.1 (232))), (1, .int (a)), (2, .int (b)), (3, .int (w))]) hx hb dX8_plug_128 hl (k := 1) rfl (by decide) (by decide) rfl (fun ls hl => ?_)
                      refine lv_goto (tgt := 97) hx hb dX8_plug_131 (by decide) ?_
                      refine lv_iload hx hb dX8_plug_97 (lv_at hl 0 rfl) ?_
                      refine lv_iconst (v := 3) hx hb dX8_plug_99 (by decide) ?_
                      refine lv_icmp_ge (tgt := 134) hx hb dX8_plug_100 (by decide) (fun _ => ?_) (fun c => absurd c (by decide))
                      refine lv_aload_n hx hb dX8_plug_134 rfl (lv_at hl 2 rfl) ?_
                      refine lv_iload hx hb dX8_plug_135 (lv_at hl 1 rfl) ?_
                      refine c_i hw (run_V (As := [.int 1]) (rest := []) (np := 1) hf hw (k_X8_acted l E _  (1 : Int32)  (s7_ni (x := μ.1 7 0) (s7_pM (by decide) (s7_pC (by decide) (rfl : S7 (μ.1 7 0) μ))) hst)) ⟨gl_V q150 q151 q152 q5 q153, by decide +kernel⟩ ⟨rfl, rfl, Nat.le_of_ble_eq_true rfl, Nat.le_of_ble_eq_true rfl⟩ (by decide) (c_R E _) rfl rfl hl.1 rfl (Nat.le_of_ble_eq_true rfl) dX8_plug_137 ⟨Nat.zero_le _, Nat.zero_le _⟩) (fun H locs hw => ?_)
                      exact e_i hf hr hlocks hw rfl ((if_pos c1).trans ((if_pos c2).trans ((if_pos c3).trans ((if_pos c4).trans ((if_pos c5).trans ((if_neg c6).trans ((if_pos c30).trans ((if_pos c32).trans ((if_pos c44).trans ((if_neg c50).trans rfl)))))))))) dX8_plug_140
                    · refine lv_iconst (v := 0) hx hb dX8_plug_120 (by decide) ?_
                      refine lv_goto (tgt := 125) hx hb dX8_plug_121 (by decide) ?_
                      refine lv_iadd hx hb dX8_plug_125 ?_
                      refine fold_i (show (0 + 0 : Int32) = 0 from by decide) ?_
                      refine lv_istore (lv' := [(4, .int 0), (5, .int 2), (0, .ref (E.1 (232))), (1, .int (a)), (2, .int (b)), (3, .int (w))]) hx hb dX8_plug_126 hl (by decide) rfl (fun ls hl => ?_)
                      refine lv_iinc (v := 3) (lv' := [(5, .int 3), (4, .int 0), (0, .ref (E.1 (232))), (1, .int (a)), (2, .int (b)), (3, .int (w))]) hx hb dX8_plug_128 hl (k := 1) rfl (by decide) (by decide) rfl (fun ls hl => ?_)
                      refine lv_goto (tgt := 97) hx hb dX8_plug_131 (by decide) ?_
                      refine lv_iload hx hb dX8_plug_97 (lv_at hl 0 rfl) ?_
                      refine lv_iconst (v := 3) hx hb dX8_plug_99 (by decide) ?_
                      refine lv_icmp_ge (tgt := 134) hx hb dX8_plug_100 (by decide) (fun _ => ?_) (fun c => absurd c (by decide))
                      refine lv_aload_n hx hb dX8_plug_134 rfl (lv_at hl 2 rfl) ?_
                      refine lv_iload hx hb dX8_plug_135 (lv_at hl 1 rfl) ?_
                      refine c_i hw (run_V (As := [.int 0]) (rest := []) (np := 1) hf hw (k_X8_acted l E _  (0 : Int32)  (s7_ni (x := μ.1 7 0) (s7_pM (by decide) (s7_pC (by decide) (rfl : S7 (μ.1 7 0) μ))) hst)) ⟨gl_V q150 q151 q152 q5 q153, by decide +kernel⟩ ⟨rfl, rfl, Nat.le_of_ble_eq_true rfl, Nat.le_of_ble_eq_true rfl⟩ (by decide) (c_R E _) rfl rfl hl.1 rfl (Nat.le_of_ble_eq_true rfl) dX8_plug_137 ⟨Nat.zero_le _, Nat.zero_le _⟩) (fun H locs hw => ?_)
                      exact e_i hf hr hlocks hw rfl ((if_pos c1).trans ((if_pos c2).trans ((if_pos c3).trans ((if_pos c4).trans ((if_pos c5).trans ((if_neg c6).trans ((if_pos c30).trans ((if_pos c32).trans ((if_pos c44).trans ((if_pos c50).trans rfl)))))))))) dX8_plug_140
              · have c30n : ¬ ((μ.1 8 (85 + 29 * a.toNatClampNeg + 1)).toNatClampNeg) = (b.toNatClampNeg + 2) := by have q := (nI_eq (a := ((μ.1 8 (85 + 29 * a.toNatClampNeg + 1)).toNatClampNeg)) (b := (b.toNatClampNeg + 2)) (by omega) (by omega)); first | exact q.mp c30 | exact fun z => c30 (q.mpr z)
                refine lv_ldc hx hb hf.2.2.2.1 (hf.2.2.2.2 _ q202) dX8_plug_71 ?_
                exact e_i hf hr hlocks hw rfl ((if_pos c1).trans ((if_pos c2).trans ((if_pos c3).trans ((if_pos c4).trans ((if_pos c5).trans ((if_neg c6).trans ((if_neg c30).trans rfl))))))) dX8_plug_73
      · replace c3 := (bz_0 _).mp c3
        refine lv_ldc hx hb hf.2.2.2.1 (hf.2.2.2.2 _ q154) dX8_plug_26 ?_
        exact e_i hf hr hlocks hw rfl ((if_pos c1).trans ((if_pos c2).trans ((if_neg c3).trans rfl))) dX8_plug_28
def sp_X8_readingAt (g : Nat → Int32)  (a : Int32) (b : Int32) : Int32 :=
  if 0 ≤ a ∧ a ≤ (g 1) - 1 then
    if (0 : Int32) ≤ b then
      if (nI ((g (85 + 29 * a.toNatClampNeg + 19)).toNatClampNeg) : Int32) ≤ b then
        (-2000000004)
      else
        (g (85 + 29 * a.toNatClampNeg + ((20 + ((g (85 + 29 * a.toNatClampNeg + 19)).toNatClampNeg) - 1) - b.toNatClampNeg)))
    else
      (-2000000001)
  else
    (-2000000001)
set_option maxHeartbeats 4000000 in
set_option maxRecDepth 100000 in
theorem k_X8_readingAt (l : Launch) (E : En) (μ : Mu)  (a : Int32) (b : Int32) (hI : RI (μ.1 8)) : MtI l yX8_readingAt cX8_readingAt 4 .int ({ frames := 2, cells := 0, slots := 0, locals := 43 }) [.ref (E.1 (232)), .int (a), .int (b)] E μ ((sp_X8_readingAt (μ.1 8) a b), μ) := by
  refine mt_of (by decide +kernel) (Nat.le_of_ble_eq_true rfl) ?_
  intro p e s m args below meth c ls hf hr hlocks hl hw
  have hx := hf.1
  have hb := hf.2.1
  have hl : lv_has ls 4 [(0, .ref (E.1 (232))), (1, .int (a)), (2, .int (b))] := hl
  refine lv_aload_n hx hb dX8_readingAt_0 rfl (lv_at hl 0 rfl) ?_
  refine lv_iload_n hx hb dX8_readingAt_1 rfl (lv_at hl 1 rfl) ?_
  refine c_iR hw (run_V (As := [.int (a)]) (rest := []) (np := 1) hf hw (kn_X8_isSensor l E _  a  ) ⟨gl_V q370 q371 q372 q5 q373, by decide +kernel⟩ ⟨rfl, rfl, Nat.le_of_ble_eq_true rfl, Nat.le_of_ble_eq_true rfl⟩ (by decide) (c_R E _) rfl rfl hl.1 rfl (Nat.le_of_ble_eq_true rfl) dX8_readingAt_2 ⟨Nat.zero_le _, Nat.zero_le _⟩) (fun H locs hw => ?_)
  refine lv_if_eq (tgt := 12) hx hb dX8_readingAt_5 (by decide) (fun c1 => ?_) (fun c1 => ?_)
  · replace c1 := (bz_0 _).mp c1
    refine lv_ldc hx hb hf.2.2.2.1 (hf.2.2.2.2 _ q154) dX8_readingAt_12 ?_
    exact e_i hf hr hlocks hw rfl (congrArg (fun z => (z, μ)) ((if_neg c1).trans rfl)) dX8_readingAt_14
  · replace c1 := (bz_n0 _).mp c1
    have c1a := (ni_of hI.2.1 (by decide) c1)
    have c1ab : a.toNatClampNeg < 6 := Nat.lt_of_lt_of_le c1a.2 (Nat.le_of_lt_succ hI.2.1.2)
    refine lv_iload_n hx hb dX8_readingAt_8 rfl (lv_at hl 2 rfl) ?_
    refine lv_if_ge (tgt := 15) hx hb dX8_readingAt_9 (by decide) (fun c2 => ?_) (fun c2 => ?_)
    · refine lv_aload_n hx hb dX8_readingAt_15 rfl (lv_at hl 0 rfl) ?_
      refine lv_iload_n hx hb dX8_readingAt_16 rfl (lv_at hl 1 rfl) ?_
      refine fold_i (show a = nI (a.toNatClampNeg) from c1a.1) ?_
      refine lv_bipush (v := 19) hx hb dX8_readingAt_17 (by decide) ?_
      refine c_iR hw (run_V (As := [.int (nI (a.toNatClampNeg)), .int 19]) (rest := []) (np := 2) hf hw (kn_X8_of l E _  a.toNatClampNeg 19  (show a.toNatClampNeg < 6 from c1ab) (show 19 < 29 from (by decide))) ⟨gl_V q227 q228 q229 q5 q230, by decide +kernel⟩ ⟨rfl, rfl, Nat.le_of_ble_eq_true rfl, Nat.le_of_ble_eq_true rfl⟩ (by decide) (c_R E _) rfl rfl hl.1 rfl (Nat.le_of_ble_eq_true rfl) dX8_readingAt_19 ⟨Nat.zero_le _, Nat.zero_le _⟩) (fun H locs hw => ?_)
      have hb3 := ((hI).2.2.2 _ c1ab).2.1.2
      refine fold_i (show μ.1 8 (85 + 29 * a.toNatClampNeg + 19) = nI ((μ.1 8 (85 + 29 * a.toNatClampNeg + 19)).toNatClampNeg) from ((hI).2.2.2 _ c1ab).2.1.1) ?_
      refine lv_istore_n (lv' := [(3, .int (nI ((μ.1 8 (85 + 29 * a.toNatClampNeg + 19)).toNatClampNeg))), (0, .ref (E.1 (232))), (1, .int (a)), (2, .int (b))]) hx hb dX8_readingAt_22 rfl hl (by decide) rfl (fun ls hl => ?_)
      refine lv_iload_n hx hb dX8_readingAt_23 rfl (lv_at hl 3 rfl) ?_
      refine lv_iload_n hx hb dX8_readingAt_24 rfl (lv_at hl 0 rfl) ?_
      refine lv_icmp_ge (tgt := 44) hx hb dX8_readingAt_25 (by decide) (fun c4 => ?_) (fun c4 => ?_)
      · refine lv_ldc hx hb hf.2.2.2.1 (hf.2.2.2.2 _ q242) dX8_readingAt_44 ?_
        exact e_i hf hr hlocks hw rfl (congrArg (fun z => (z, μ)) ((if_pos c1).trans ((if_pos c2).trans ((if_pos c4).trans rfl)))) dX8_readingAt_46
      · have c4x := (na_cmp (by omega) (nlt_of_le c2) c4)
        have c4xb : b.toNatClampNeg < ((μ.1 8 (85 + 29 * a.toNatClampNeg + 19)).toNatClampNeg) := c4x.2
        refine lv_aload_n hx hb dX8_readingAt_28 rfl (lv_at hl 1 rfl) ?_
        refine lv_iload_n hx hb dX8_readingAt_29 rfl (lv_at hl 2 rfl) ?_
        refine fold_i (show a = nI (a.toNatClampNeg) from c1a.1) ?_
        refine lv_bipush (v := 20) hx hb dX8_readingAt_30 (by decide) ?_
        refine lv_iload_n hx hb dX8_readingAt_32 rfl (lv_at hl 0 rfl) ?_
        refine lv_iadd hx hb dX8_readingAt_33 ?_
        refine fold_i (show (20 : Int32) + nI ((μ.1 8 (85 + 29 * a.toNatClampNeg + 19)).toNatClampNeg) = nI (20 + ((μ.1 8 (85 + 29 * a.toNatClampNeg + 19)).toNatClampNeg)) from nI_add (20) ((μ.1 8 (85 + 29 * a.toNatClampNeg + 19)).toNatClampNeg)) ?_
        refine lv_iconst (v := 1) hx hb dX8_readingAt_34 (by decide) ?_
        refine lv_isub hx hb dX8_readingAt_35 ?_
        refine fold_i (show nI (20 + ((μ.1 8 (85 + 29 * a.toNatClampNeg + 19)).toNatClampNeg)) - 1 = nI (20 + ((μ.1 8 (85 + 29 * a.toNatClampNeg + 19)).toNatClampNeg) - 1) from pk_sub (a := 20 + ((μ.1 8 (85 + 29 * a.toNatClampNeg + 19)).toNatClampNeg)) (b := 1) (by omega)) ?_
        refine lv_iload_n hx hb dX8_readingAt_36 rfl (lv_at hl 3 rfl) ?_
        refine fold_i (show b = nI (b.toNatClampNeg) from c4x.1) ?_
        refine lv_isub hx hb dX8_readingAt_37 ?_
        refine fold_i (show nI (20 + ((μ.1 8 (85 + 29 * a.toNatClampNeg + 19)).toNatClampNeg) - 1) - nI (b.toNatClampNeg) = nI ((20 + ((μ.1 8 (85 + 29 * a.toNatClampNeg + 19)).toNatClampNeg) - 1) - b.toNatClampNeg) from pk_sub (a := 20 + ((μ.1 8 (85 + 29 * a.toNatClampNeg + 19)).toNatClampNeg) - 1) (b := b.toNatClampNeg) (by omega)) ?_
        refine c_iR hw (run_V (As := [.int (nI (a.toNatClampNeg)), .int (nI ((20 + ((μ.1 8 (85 + 29 * a.toNatClampNeg + 19)).toNatClampNeg) - 1) - b.toNatClampNeg))]) (rest := []) (np := 2) hf hw (kn_X8_of l E _  a.toNatClampNeg ((20 + ((μ.1 8 (85 + 29 * a.toNatClampNeg + 19)).toNatClampNeg) - 1) - b.toNatClampNeg)  (show a.toNatClampNeg < 6 from c1ab) (show (20 + ((μ.1 8 (85 + 29 * a.toNatClampNeg + 19)).toNatClampNeg) - 1) - b.toNatClampNeg < 29 from (by omega))) ⟨gl_V q227 q228 q229 q5 q230, by decide +kernel⟩ ⟨rfl, rfl, Nat.le_of_ble_eq_true rfl, Nat.le_of_ble_eq_true rfl⟩ (by decide) (c_R E _) rfl rfl hl.1 rfl (Nat.le_of_ble_eq_true rfl) dX8_readingAt_38 ⟨Nat.zero_le _, Nat.zero_le _⟩) (fun H locs hw => ?_)
        refine lv_goto (tgt := 46) hx hb dX8_readingAt_41 (by decide) ?_
        exact e_i hf hr hlocks hw rfl (congrArg (fun z => (z, μ)) ((if_pos c1).trans ((if_pos c2).trans ((if_neg c4).trans rfl)))) dX8_readingAt_46
    · refine lv_ldc hx hb hf.2.2.2.1 (hf.2.2.2.2 _ q154) dX8_readingAt_12 ?_
      exact e_i hf hr hlocks hw rfl (congrArg (fun z => (z, μ)) ((if_pos c1).trans ((if_neg c2).trans rfl))) dX8_readingAt_14
