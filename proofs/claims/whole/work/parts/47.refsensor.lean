/-! ===== the reference: a new sensor ===== -/
def RIA (m : Mu) : Prop := RI (m.1 8)
theorem ni_z {N : Nat} (h : 0 < N) : ni N 0 := ⟨rfl, h⟩
theorem ni_24 {b : Int32} (c : (2 : Int32) ≤ b ∧ b ≤ 4) : ni 5 b := by
  have q := na_rng 2 4 rfl rfl (by decide) (by decide) c
  exact ⟨q.1, q.2.2⟩
theorem ria_pC {m : Mu} {c b c' b' n : Nat} (hc : c ≠ 8) (h : RIA m) : RIA (pC m c b c' b' n) := by
  unfold RIA at h ⊢
  rw [pC_row (Ne.symm hc)]; exact h
theorem ria_up {m : Mu} {k : Nat} {v : Int32} (h : RIA m) (hk : k ≠ 0) (ht : ∀ t, t < 3 → k ≠ 10 + 25 * t) (h1 : k = 1 → ni 7 v) (hs : ∀ n, n < 6 → (k = 85 + 29 * n + 0 → ni 3 v) ∧ (k = 85 + 29 * n + 19 → ni 10 v) ∧ (k = 85 + 29 * n + 1 → ni 5 v)) : RIA (pM m 8 k v) := by
  obtain ⟨i0, i1, i2, i3⟩ := h
  have pick : ∀ (N y : Nat), (k = y → ni N v) → ni N (m.1 8 y) → ni N ((pM m 8 k v).1 8 y) := by
    intro N y a b
    by_cases e : y = k
    · subst e; rw [w8_eq]; exact a rfl
    · rw [w8_ne e]; exact b
  exact ⟨pick _ _ (fun e => absurd e hk) i0, pick _ _ h1 i1, fun t q => pick _ _ (fun e => absurd e (ht t q)) (i2 t q), fun n q => ⟨pick _ _ (hs n q).1 (i3 n q).1, pick _ _ (hs n q).2.1 (i3 n q).2.1, pick _ _ (hs n q).2.2 (i3 n q).2.2⟩⟩
theorem rn_pM {m : Mu} {k t : Nat} {v : Int32} (hk : 10 + 25 * t ≠ k) : rN ((pM m 8 k v).1 8) t = rN (m.1 8) t := by
  unfold rN
  rw [w8_ne hk]
def lp_X8_sensor_83 (μ : Mu)  (a : Int32) (b : Int32) (d : Int32) : Nat → Nat → Mu → Int32 × Mu
  | 0, _, μ1 => (0, μ1)
  | f + 1, k, μ1 =>
    if (29 : Int32) ≤ nI k then
      if (((pM (pM (pM (pM μ1 8 (85 + 29 * ((μ.1 8 1).toNatClampNeg) + 0) (nI (a.toNatClampNeg))) 8 (85 + 29 * ((μ.1 8 1).toNatClampNeg) + 1) b) 8 (85 + 29 * ((μ.1 8 1).toNatClampNeg) + 2) d) 8 (85 + 29 * ((μ.1 8 1).toNatClampNeg) + 3) d).1 8 (11 + 25 * a.toNatClampNeg + 0)) : Int32) ≤ 0 then
        if (0 : Int32) ≤ rL ((pM (pM (pM (pM μ1 8 (85 + 29 * ((μ.1 8 1).toNatClampNeg) + 0) ((nI (a.toNatClampNeg)))) 8 (85 + 29 * ((μ.1 8 1).toNatClampNeg) + 1) (b)) 8 (85 + 29 * ((μ.1 8 1).toNatClampNeg) + 2) (d)) 8 (85 + 29 * ((μ.1 8 1).toNatClampNeg) + 3) (d)).1 8) a.toNatClampNeg then
          ((sp_X8_acted (pM (pM (pM (pM (pM (pM (pM (pM μ1 8 (85 + 29 * ((μ.1 8 1).toNatClampNeg) + 0) (nI (a.toNatClampNeg))) 8 (85 + 29 * ((μ.1 8 1).toNatClampNeg) + 1) b) 8 (85 + 29 * ((μ.1 8 1).toNatClampNeg) + 2) d) 8 (85 + 29 * ((μ.1 8 1).toNatClampNeg) + 3) d) 8 (85 + 29 * ((μ.1 8 1).toNatClampNeg) + 4) (0 : Int32)) 8 (85 + 29 * ((μ.1 8 1).toNatClampNeg) + 13) ((-1) : Int32)) 8 (85 + 29 * ((μ.1 8 1).toNatClampNeg) + 14) ((-200000) : Int32)) 8 (85 + 29 * ((μ.1 8 1).toNatClampNeg) + 15) (850000 : Int32))  (nI ((μ.1 8 1).toNatClampNeg))).1, (sp_X8_acted (pM (pM (pM (pM (pM (pM (pM (pM μ1 8 (85 + 29 * ((μ.1 8 1).toNatClampNeg) + 0) (nI (a.toNatClampNeg))) 8 (85 + 29 * ((μ.1 8 1).toNatClampNeg) + 1) b) 8 (85 + 29 * ((μ.1 8 1).toNatClampNeg) + 2) d) 8 (85 + 29 * ((μ.1 8 1).toNatClampNeg) + 3) d) 8 (85 + 29 * ((μ.1 8 1).toNatClampNeg) + 4) (0 : Int32)) 8 (85 + 29 * ((μ.1 8 1).toNatClampNeg) + 13) ((-1) : Int32)) 8 (85 + 29 * ((μ.1 8 1).toNatClampNeg) + 14) ((-200000) : Int32)) 8 (85 + 29 * ((μ.1 8 1).toNatClampNeg) + 15) (850000 : Int32))  (nI ((μ.1 8 1).toNatClampNeg))).2)
        else
          ((sp_X8_acted (pM (pM (pM (pM (pM (pM (pM (pM μ1 8 (85 + 29 * ((μ.1 8 1).toNatClampNeg) + 0) (nI (a.toNatClampNeg))) 8 (85 + 29 * ((μ.1 8 1).toNatClampNeg) + 1) b) 8 (85 + 29 * ((μ.1 8 1).toNatClampNeg) + 2) d) 8 (85 + 29 * ((μ.1 8 1).toNatClampNeg) + 3) d) 8 (85 + 29 * ((μ.1 8 1).toNatClampNeg) + 4) (rL ((pM (pM (pM (pM μ1 8 (85 + 29 * ((μ.1 8 1).toNatClampNeg) + 0) ((nI (a.toNatClampNeg)))) 8 (85 + 29 * ((μ.1 8 1).toNatClampNeg) + 1) (b)) 8 (85 + 29 * ((μ.1 8 1).toNatClampNeg) + 2) (d)) 8 (85 + 29 * ((μ.1 8 1).toNatClampNeg) + 3) (d)).1 8) a.toNatClampNeg)) 8 (85 + 29 * ((μ.1 8 1).toNatClampNeg) + 13) ((-1) : Int32)) 8 (85 + 29 * ((μ.1 8 1).toNatClampNeg) + 14) ((-200000) : Int32)) 8 (85 + 29 * ((μ.1 8 1).toNatClampNeg) + 15) (850000 : Int32))  (nI ((μ.1 8 1).toNatClampNeg))).1, (sp_X8_acted (pM (pM (pM (pM (pM (pM (pM (pM μ1 8 (85 + 29 * ((μ.1 8 1).toNatClampNeg) + 0) (nI (a.toNatClampNeg))) 8 (85 + 29 * ((μ.1 8 1).toNatClampNeg) + 1) b) 8 (85 + 29 * ((μ.1 8 1).toNatClampNeg) + 2) d) 8 (85 + 29 * ((μ.1 8 1).toNatClampNeg) + 3) d) 8 (85 + 29 * ((μ.1 8 1).toNatClampNeg) + 4) (rL ((pM (pM (pM (pM μ1 8 (85 + 29 * ((μ.1 8 1).toNatClampNeg) + 0) ((nI (a.toNatClampNeg)))) 8 (85 + 29 * ((μ.1 8 1).toNatClampNeg) + 1) (b)) 8 (85 + 29 * ((μ.1 8 1).toNatClampNeg) + 2) (d)) 8 (85 + 29 * ((μ.1 8 1).toNatClampNeg) + 3) (d)).1 8) a.toNatClampNeg)) 8 (85 + 29 * ((μ.1 8 1).toNatClampNeg) + 13) ((-1) : Int32)) 8 (85 + 29 * ((μ.1 8 1).toNatClampNeg) + 14) ((-200000) : Int32)) 8 (85 + 29 * ((μ.1 8 1).toNatClampNeg) + 15) (850000 : Int32))  (nI ((μ.1 8 1).toNatClampNeg))).2)
      else
        ((sp_X8_acted (pM (pM (pM (pM (pM (pM (pM (pM μ1 8 (85 + 29 * ((μ.1 8 1).toNatClampNeg) + 0) (nI (a.toNatClampNeg))) 8 (85 + 29 * ((μ.1 8 1).toNatClampNeg) + 1) b) 8 (85 + 29 * ((μ.1 8 1).toNatClampNeg) + 2) d) 8 (85 + 29 * ((μ.1 8 1).toNatClampNeg) + 3) d) 8 (85 + 29 * ((μ.1 8 1).toNatClampNeg) + 4) ((pM (pM (pM (pM μ1 8 (85 + 29 * ((μ.1 8 1).toNatClampNeg) + 0) (nI (a.toNatClampNeg))) 8 (85 + 29 * ((μ.1 8 1).toNatClampNeg) + 1) b) 8 (85 + 29 * ((μ.1 8 1).toNatClampNeg) + 2) d) 8 (85 + 29 * ((μ.1 8 1).toNatClampNeg) + 3) d).1 8 (11 + 25 * a.toNatClampNeg + 0))) 8 (85 + 29 * ((μ.1 8 1).toNatClampNeg) + 13) ((-1) : Int32)) 8 (85 + 29 * ((μ.1 8 1).toNatClampNeg) + 14) ((-200000) : Int32)) 8 (85 + 29 * ((μ.1 8 1).toNatClampNeg) + 15) (850000 : Int32))  (nI ((μ.1 8 1).toNatClampNeg))).1, (sp_X8_acted (pM (pM (pM (pM (pM (pM (pM (pM μ1 8 (85 + 29 * ((μ.1 8 1).toNatClampNeg) + 0) (nI (a.toNatClampNeg))) 8 (85 + 29 * ((μ.1 8 1).toNatClampNeg) + 1) b) 8 (85 + 29 * ((μ.1 8 1).toNatClampNeg) + 2) d) 8 (85 + 29 * ((μ.1 8 1).toNatClampNeg) + 3) d) 8 (85 + 29 * ((μ.1 8 1).toNatClampNeg) + 4) ((pM (pM (pM (pM μ1 8 (85 + 29 * ((μ.1 8 1).toNatClampNeg) + 0) (nI (a.toNatClampNeg))) 8 (85 + 29 * ((μ.1 8 1).toNatClampNeg) + 1) b) 8 (85 + 29 * ((μ.1 8 1).toNatClampNeg) + 2) d) 8 (85 + 29 * ((μ.1 8 1).toNatClampNeg) + 3) d).1 8 (11 + 25 * a.toNatClampNeg + 0))) 8 (85 + 29 * ((μ.1 8 1).toNatClampNeg) + 13) ((-1) : Int32)) 8 (85 + 29 * ((μ.1 8 1).toNatClampNeg) + 14) ((-200000) : Int32)) 8 (85 + 29 * ((μ.1 8 1).toNatClampNeg) + 15) (850000 : Int32))  (nI ((μ.1 8 1).toNatClampNeg))).2)
    else
      lp_X8_sensor_83 μ a b d f (k + 1) (pM μ1 8 (85 + 29 * ((μ.1 8 1).toNatClampNeg) + k) (0 : Int32))
def sp_X8_sensor (μ : Mu)  (a : Int32) (b : Int32) (d : Int32) : Int32 × Mu :=
  if 0 ≤ a ∧ a ≤ (μ.1 8 0) - 1 then
    if (2 : Int32) ≤ b ∧ b ≤ (4 : Int32) then
      if (1000 : Int32) ≤ d ∧ d ≤ (2000000 : Int32) then
        if (2 : Int32) ≤ nI ((μ.1 8 (10 + 25 * a.toNatClampNeg)).toNatClampNeg) then
          if (nI ((μ.1 8 1).toNatClampNeg) : Int32) = 6 then
            ((-2000000003), μ)
          else
            lp_X8_sensor_83 μ a b d 30 0 (pM (pC μ 11 0 8 0 259) 8 1 (nI ((μ.1 8 1).toNatClampNeg + 1)))
        else
          ((-2000000002), μ)
      else
        ((-2000000001), μ)
    else
      ((-2000000001), μ)
  else
    ((-2000000001), μ)
set_option maxHeartbeats 4000000 in
set_option maxRecDepth 100000 in
theorem k_X8_sensor (l : Launch) (E : En) (μ : Mu)  (a : Int32) (b : Int32) (d : Int32) (hI : RI (μ.1 8)) (hst : ni 5 (μ.1 7 0)) : MtI l yX8_sensor cX8_sensor 6 .int ({ frames := 2, cells := 0, slots := 0, locals := 43 }) [.ref (E.1 (232)), .int (a), .int (b), .int (d)] E μ (sp_X8_sensor μ a b d) := by
  refine mt_of (by decide +kernel) (Nat.le_of_ble_eq_true rfl) ?_
  intro p e s m args below meth c ls hf hr hlocks hl hw
  have hx := hf.1
  have hb := hf.2.1
  have hl : lv_has ls 6 [(0, .ref (E.1 (232))), (1, .int (a)), (2, .int (b)), (3, .int (d))] := hl
  have hh : RIA μ := hI
  have hcn := hI.2.1.2
  refine lv_aload_n hx hb dX8_sensor_0 rfl (lv_at hl 0 rfl) ?_
  refine lv_iload_n hx hb dX8_sensor_1 rfl (lv_at hl 1 rfl) ?_
  refine c_iR hw (run_V (As := [.int (a)]) (rest := []) (np := 1) hf hw (kn_X8_isTable l E _  a  ) ⟨gl_V q203 q204 q205 q5 q206, by decide +kernel⟩ ⟨rfl, rfl, Nat.le_of_ble_eq_true rfl, Nat.le_of_ble_eq_true rfl⟩ (by decide) (c_R E _) rfl rfl hl.1 rfl (Nat.le_of_ble_eq_true rfl) dX8_sensor_2 ⟨Nat.zero_le _, Nat.zero_le _⟩) (fun H locs hw => ?_)
  refine lv_if_eq (tgt := 29) hx hb dX8_sensor_5 (by decide) (fun c1 => ?_) (fun c1 => ?_)
  · replace c1 := (bz_0 _).mp c1
    refine lv_ldc hx hb hf.2.2.2.1 (hf.2.2.2.2 _ q154) dX8_sensor_29 ?_
    exact e_i hf hr hlocks hw rfl ((if_neg c1).trans rfl) dX8_sensor_31
  · replace c1 := (bz_n0 _).mp c1
    have c1a := (ni_of hI.1 (by decide) c1)
    have c1ab : a.toNatClampNeg < 3 := Nat.lt_of_lt_of_le c1a.2 (Nat.le_of_lt_succ hI.1.2)
    refine lv_iload_n hx hb dX8_sensor_8 rfl (lv_at hl 2 rfl) ?_
    refine lv_iconst (v := 2) hx hb dX8_sensor_9 (by decide) ?_
    refine lv_iconst (v := 4) hx hb dX8_sensor_10 (by decide) ?_
    refine c_iR hw (run_S (As := [.int (b), .int 2, .int 4]) (rest := []) (np := 3) hf hw (kn_X8_in l E _  b (2 : Int32) (4 : Int32)  ) ⟨gl_S q207 q208 q5 q209, by decide +kernel⟩ ⟨rfl, rfl, Nat.le_of_ble_eq_true rfl, Nat.le_of_ble_eq_true rfl⟩ rfl hl.1 rfl (Nat.le_of_ble_eq_true rfl) dX8_sensor_11 ⟨Nat.zero_le _, Nat.zero_le _⟩) (fun H locs hw => ?_)
    refine lv_if_eq (tgt := 29) hx hb dX8_sensor_14 (by decide) (fun c2 => ?_) (fun c2 => ?_)
    · replace c2 := (bz_0 _).mp c2
      refine lv_ldc hx hb hf.2.2.2.1 (hf.2.2.2.2 _ q154) dX8_sensor_29 ?_
      exact e_i hf hr hlocks hw rfl ((if_pos c1).trans ((if_neg c2).trans rfl)) dX8_sensor_31
    · replace c2 := (bz_n0 _).mp c2
      refine lv_iload_n hx hb dX8_sensor_17 rfl (lv_at hl 3 rfl) ?_
      refine lv_sipush (v := 1000) hx hb dX8_sensor_18 (by decide) ?_
      refine lv_ldc hx hb hf.2.2.2.1 (hf.2.2.2.2 _ q334) dX8_sensor_21 ?_
      refine c_iR hw (run_S (As := [.int (d), .int 1000, .int 2000000]) (rest := []) (np := 3) hf hw (kn_X8_in l E _  d (1000 : Int32) (2000000 : Int32)  ) ⟨gl_S q207 q208 q5 q209, by decide +kernel⟩ ⟨rfl, rfl, Nat.le_of_ble_eq_true rfl, Nat.le_of_ble_eq_true rfl⟩ rfl hl.1 rfl (Nat.le_of_ble_eq_true rfl) dX8_sensor_23 ⟨Nat.zero_le _, Nat.zero_le _⟩) (fun H locs hw => ?_)
      refine lv_if_ne (tgt := 32) hx hb dX8_sensor_26 (by decide) (fun c3 => ?_) (fun c3 => ?_)
      · replace c3 := (bz_n0 _).mp c3
        refine lv_aload_n hx hb dX8_sensor_32 rfl (lv_at hl 0 rfl) ?_
        refine lv_iload_n hx hb dX8_sensor_33 rfl (lv_at hl 1 rfl) ?_
        refine fold_i (show a = nI (a.toNatClampNeg) from c1a.1) ?_
        refine c_iR hw (run_V (As := [.int (nI (a.toNatClampNeg))]) (rest := []) (np := 1) hf hw (kn_X8_nodes l E _  a.toNatClampNeg  (show a.toNatClampNeg < 3 from c1ab)) ⟨gl_V q215 q216 q217 q5 q218, by decide +kernel⟩ ⟨rfl, rfl, Nat.le_of_ble_eq_true rfl, Nat.le_of_ble_eq_true rfl⟩ (by decide) (c_R E _) rfl rfl hl.1 rfl (Nat.le_of_ble_eq_true rfl) dX8_sensor_34 ⟨Nat.zero_le _, Nat.zero_le _⟩) (fun H locs hw => ?_)
        have hb4 := ((hI).2.2.1 _ c1ab).2
        refine fold_i (show μ.1 8 (10 + 25 * a.toNatClampNeg) = nI ((μ.1 8 (10 + 25 * a.toNatClampNeg)).toNatClampNeg) from ((hI).2.2.1 _ c1ab).1) ?_
        refine lv_iconst (v := 2) hx hb dX8_sensor_37 (by decide) ?_
        refine lv_icmp_ge (tgt := 44) hx hb dX8_sensor_38 (by decide) (fun c5 => ?_) (fun c5 => ?_)
        · have c5n : 2 ≤ ((μ.1 8 (10 + 25 * a.toNatClampNeg)).toNatClampNeg) := by have q := (nI_leI (a := 2) (b := ((μ.1 8 (10 + 25 * a.toNatClampNeg)).toNatClampNeg)) (by omega) (by omega)); first | exact q.mp c5 | exact fun z => c5 (q.mpr z)
          refine lv_aload_n hx hb dX8_sensor_44 rfl (lv_at hl 0 rfl) ?_
          refine g_f hw hf (by decide) (c_R E _) rfl inlX8 0 (by decide) rfl q90 rfl dX8_sensor_45 ?_
          refine lv_iconst (v := 1) hx hb dX8_sensor_48 (by decide) ?_
          refine g_a hw hf (by decide) (c_Rs E _) (vp_lit 1 259 (by decide) (by decide)) (tr_at (y := 1) (by decide) (by decide)) dX8_sensor_49 ?_
          have hb6 := (hI).2.1.2
          refine fold_i (show μ.1 8 1 = nI ((μ.1 8 1).toNatClampNeg) from (hI).2.1.1) ?_
          refine lv_bipush (v := 6) hx hb dX8_sensor_50 (by decide) ?_
          refine lv_icmp_ne (tgt := 58) hx hb dX8_sensor_52 (by decide) (fun c7 => ?_) (fun c7 => ?_)
          · have c7n : ¬ ((μ.1 8 1).toNatClampNeg) = 6 := by have q := (nI_eq (a := ((μ.1 8 1).toNatClampNeg)) (b := 6) (by omega) (by omega)); first | exact q.mp c7 | exact fun z => c7 (q.mpr z)
            refine lv_aload_n hx hb dX8_sensor_58 rfl (lv_at hl 0 rfl) ?_
            refine c_v hw (run_V (As := []) (rest := []) (np := 0) hf hw (kn_X8_keeps l E _    ) ⟨gl_V q146 q147 q148 q5 q149, by decide +kernel⟩ ⟨rfl, rfl, Nat.le_of_ble_eq_true rfl, Nat.le_of_ble_eq_true rfl⟩ (by decide) (c_R E _) rfl rfl hl.1 rfl (Nat.le_of_ble_eq_true rfl) dX8_sensor_59 ⟨Nat.zero_le _, Nat.zero_le _⟩) (fun H locs hw => ?_)
            refine lv_aload_n hx hb dX8_sensor_62 rfl (lv_at hl 0 rfl) ?_
            refine g_f hw hf (by decide) (c_R E _) rfl inlX8 0 (by decide) rfl q90 rfl dX8_sensor_63 ?_
            refine lv_iconst (v := 1) hx hb dX8_sensor_66 (by decide) ?_
            refine g_a hw hf (by decide) (c_Rs E _) (vp_lit 1 259 (by decide) (by decide)) ((tr_at (y := 1) (by decide) (by decide)).trans (show _ = μ.1 8 1 from (by first | (simp [pM, pJ, upM, upJ, sF, tN, tD, tR, tk_M, tk_K, tk_0, tk_1, tk_2, tk_3, tk_4, tk_5, tk_6, tk_7, tk_8, tk_9, tk_10, tk_o, ms_0_0, ms_0_1, ms_0_2, ms_0_3, ms_0_4, ms_0_5, ms_0_6, ms_0_7, ms_0_8, ms_0_9, ms_0_10, ms_1_0, ms_1_1, ms_1_2, ms_1_3, ms_1_4, ms_1_5, ms_1_6, ms_1_7, ms_1_8, ms_1_9, ms_1_10, ms_w, ms_r, ms_d, ms_M, ms_6, ms_K, pC_row]; done) | (simp (disch := (first | omega | (simp only [tN, tD, tR, sF]; omega))) only [pM, pJ, upM_s, upM_k, upM_c, upJ_s, upJ_k, upJ_c, tk_M, tk_K, tk_0, tk_1, tk_2, tk_3, tk_4, tk_5, tk_6, tk_7, tk_8, tk_9, tk_10, tk_o, ms_0_0, ms_0_1, ms_0_2, ms_0_3, ms_0_4, ms_0_5, ms_0_6, ms_0_7, ms_0_8, ms_0_9, ms_0_10, ms_1_0, ms_1_1, ms_1_2, ms_1_3, ms_1_4, ms_1_5, ms_1_6, ms_1_7, ms_1_8, ms_1_9, ms_1_10, ms_w, ms_r, ms_d, ms_M, ms_6, ms_K, pC_row])))) dX8_sensor_67 ?_
            refine fold_i (show μ.1 8 1 = nI ((μ.1 8 1).toNatClampNeg) from (hI).2.1.1) ?_
            refine lv_istore (lv' := [(4, .int (nI ((μ.1 8 1).toNatClampNeg))), (0, .ref (E.1 (232))), (1, .int (a)), (2, .int (b)), (3, .int (d))]) hx hb dX8_sensor_68 hl (by decide) rfl (fun ls hl => ?_)
            refine lv_aload_n hx hb dX8_sensor_70 rfl (lv_at hl 1 rfl) ?_
            refine g_f hw hf (by decide) (c_R E _) rfl inlX8 0 (by decide) rfl q90 rfl dX8_sensor_71 ?_
            refine lv_iconst (v := 1) hx hb dX8_sensor_74 (by decide) ?_
            refine lv_dup2_11 hx hb dX8_sensor_75 rfl rfl ?_
            refine g_a hw hf (by decide) (c_Rs E _) (vp_lit 1 259 (by decide) (by decide)) ((tr_at (y := 1) (by decide) (by decide)).trans (show _ = μ.1 8 1 from (by first | (simp [pM, pJ, upM, upJ, sF, tN, tD, tR, tk_M, tk_K, tk_0, tk_1, tk_2, tk_3, tk_4, tk_5, tk_6, tk_7, tk_8, tk_9, tk_10, tk_o, ms_0_0, ms_0_1, ms_0_2, ms_0_3, ms_0_4, ms_0_5, ms_0_6, ms_0_7, ms_0_8, ms_0_9, ms_0_10, ms_1_0, ms_1_1, ms_1_2, ms_1_3, ms_1_4, ms_1_5, ms_1_6, ms_1_7, ms_1_8, ms_1_9, ms_1_10, ms_w, ms_r, ms_d, ms_M, ms_6, ms_K, pC_row]; done) | (simp (disch := (first | omega | (simp only [tN, tD, tR, sF]; omega))) only [pM, pJ, upM_s, upM_k, upM_c, upJ_s, upJ_k, upJ_c, tk_M, tk_K, tk_0, tk_1, tk_2, tk_3, tk_4, tk_5, tk_6, tk_7, tk_8, tk_9, tk_10, tk_o, ms_0_0, ms_0_1, ms_0_2, ms_0_3, ms_0_4, ms_0_5, ms_0_6, ms_0_7, ms_0_8, ms_0_9, ms_0_10, ms_1_0, ms_1_1, ms_1_2, ms_1_3, ms_1_4, ms_1_5, ms_1_6, ms_1_7, ms_1_8, ms_1_9, ms_1_10, ms_w, ms_r, ms_d, ms_M, ms_6, ms_K, pC_row])))) dX8_sensor_76 ?_
            refine fold_i (show μ.1 8 1 = nI ((μ.1 8 1).toNatClampNeg) from (hI).2.1.1) ?_
            refine lv_iconst (v := 1) hx hb dX8_sensor_77 (by decide) ?_
            refine lv_iadd hx hb dX8_sensor_78 ?_
            refine fold_i (show nI ((μ.1 8 1).toNatClampNeg) + (1 : Int32) = nI ((μ.1 8 1).toNatClampNeg + 1) from nI_add ((μ.1 8 1).toNatClampNeg) (1)) ?_
            refine p_a hw hf (by decide) (c_Rs E _) (vp_lit 1 259 (by decide) (by decide)) (by rw [show (1 : Int32).toNatClampNeg = 1 from (by decide)]; exact (s_Rs E _ (by decide) _)) dX8_sensor_79 (fun H locs hw => ?_)
            refine lv_iconst (v := 0) hx hb dX8_sensor_80 (by decide) ?_
            refine lv_istore (lv' := [(5, .int 0), (4, .int (nI ((μ.1 8 1).toNatClampNeg))), (0, .ref (E.1 (232))), (1, .int (a)), (2, .int (b)), (3, .int (d))]) hx hb dX8_sensor_81 hl (by decide) rfl (fun ls hl => ?_)
            have key_83 : ∀ (f : Nat) (k : Nat) (μ1 : Mu), k + f = 30 → k ≤ 29 → RIA μ1 → rN (μ1.1 8) a.toNatClampNeg = rN (μ.1 8) a.toNatClampNeg → ni 5 (μ1.1 7 0) → sp_X8_sensor μ a b d = lp_X8_sensor_83 μ a b d f k μ1 → ∀ (ls : Array Slot) (H : Heap) (locs : List Loc), lv_has ls 6 [(0, .ref (E.1 (232))), (1, .int (a)), (2, .int (b)), (3, .int (d)), (4, .int (nI ((μ.1 8 1).toNatClampNeg))), (5, .int (nI k))] → Wk E μ1 s H locs → W p l e ({ frames := 2, cells := 0, slots := 0, locals := 43 }) s m args below meth c H locs 0 0 (MQ below (va_Qi (fun r u => r = ((sp_X8_sensor μ a b d)).1 ∧ u = ((sp_X8_sensor μ a b d)).2) (fun u t => WdU E u t) (inE E)) args s 0 0 (inE E)) (F0 m 83 ls []) := by
              intro f
              induction f with
              | zero => intro k μ1 h1 h2 hi1 hn1 hs1 hq ls H locs hl hw; exfalso; omega
              | succ f ih =>
                intro k μ1 h1 h2 hi1 hn1 hs1 hq ls H locs hl hw
                refine lv_iload hx hb dX8_sensor_83 (lv_at hl 5 rfl) ?_
                refine lv_bipush (v := 29) hx hb dX8_sensor_85 (by decide) ?_
                refine lv_icmp_ge (tgt := 105) hx hb dX8_sensor_87 (by decide) (fun c8 => ?_) (fun c8 => ?_)
                · have c8n : 29 ≤ k := by have q := (nI_leI (a := 29) (b := k) (by omega) (by omega)); first | exact q.mp c8 | exact fun z => c8 (q.mpr z)
                  refine lv_aload_n hx hb dX8_sensor_105 rfl (lv_at hl 0 rfl) ?_
                  refine lv_iload hx hb dX8_sensor_106 (lv_at hl 4 rfl) ?_
                  refine lv_iconst (v := 0) hx hb dX8_sensor_108 (by decide) ?_
                  refine lv_iload_n hx hb dX8_sensor_109 rfl (lv_at hl 1 rfl) ?_
                  refine fold_i (show a = nI (a.toNatClampNeg) from c1a.1) ?_
                  refine c_v hw (run_V (As := [.int (nI ((μ.1 8 1).toNatClampNeg)), .int 0, .int (nI (a.toNatClampNeg))]) (rest := []) (np := 3) hf hw (kn_X8_put l E _  ((μ.1 8 1).toNatClampNeg) 0 (nI (a.toNatClampNeg))  (show (μ.1 8 1).toNatClampNeg < 6 from (by omega)) (show 0 < 29 from (by decide))) ⟨gl_V q335 q336 q337 q5 q338, by decide +kernel⟩ ⟨rfl, rfl, Nat.le_of_ble_eq_true rfl, Nat.le_of_ble_eq_true rfl⟩ (by decide) (c_R E _) rfl rfl hl.1 rfl (Nat.le_of_ble_eq_true rfl) dX8_sensor_110 ⟨Nat.zero_le _, Nat.zero_le _⟩) (fun H locs hw => ?_)
                  refine lv_aload_n hx hb dX8_sensor_113 rfl (lv_at hl 0 rfl) ?_
                  refine lv_iload hx hb dX8_sensor_114 (lv_at hl 4 rfl) ?_
                  refine lv_iconst (v := 1) hx hb dX8_sensor_116 (by decide) ?_
                  refine lv_iload_n hx hb dX8_sensor_117 rfl (lv_at hl 2 rfl) ?_
                  refine c_v hw (run_V (As := [.int (nI ((μ.1 8 1).toNatClampNeg)), .int 1, .int (b)]) (rest := []) (np := 3) hf hw (kn_X8_put l E _  ((μ.1 8 1).toNatClampNeg) 1 b  (show (μ.1 8 1).toNatClampNeg < 6 from (by omega)) (show 1 < 29 from (by decide))) ⟨gl_V q335 q336 q337 q5 q338, by decide +kernel⟩ ⟨rfl, rfl, Nat.le_of_ble_eq_true rfl, Nat.le_of_ble_eq_true rfl⟩ (by decide) (c_R E _) rfl rfl hl.1 rfl (Nat.le_of_ble_eq_true rfl) dX8_sensor_118 ⟨Nat.zero_le _, Nat.zero_le _⟩) (fun H locs hw => ?_)
                  refine lv_aload_n hx hb dX8_sensor_121 rfl (lv_at hl 0 rfl) ?_
                  refine lv_iload hx hb dX8_sensor_122 (lv_at hl 4 rfl) ?_
                  refine lv_iconst (v := 2) hx hb dX8_sensor_124 (by decide) ?_
                  refine lv_iload_n hx hb dX8_sensor_125 rfl (lv_at hl 3 rfl) ?_
                  refine c_v hw (run_V (As := [.int (nI ((μ.1 8 1).toNatClampNeg)), .int 2, .int (d)]) (rest := []) (np := 3) hf hw (kn_X8_put l E _  ((μ.1 8 1).toNatClampNeg) 2 d  (show (μ.1 8 1).toNatClampNeg < 6 from (by omega)) (show 2 < 29 from (by decide))) ⟨gl_V q335 q336 q337 q5 q338, by decide +kernel⟩ ⟨rfl, rfl, Nat.le_of_ble_eq_true rfl, Nat.le_of_ble_eq_true rfl⟩ (by decide) (c_R E _) rfl rfl hl.1 rfl (Nat.le_of_ble_eq_true rfl) dX8_sensor_126 ⟨Nat.zero_le _, Nat.zero_le _⟩) (fun H locs hw => ?_)
                  refine lv_aload_n hx hb dX8_sensor_129 rfl (lv_at hl 0 rfl) ?_
                  refine lv_iload hx hb dX8_sensor_130 (lv_at hl 4 rfl) ?_
                  refine lv_iconst (v := 3) hx hb dX8_sensor_132 (by decide) ?_
                  refine lv_iload_n hx hb dX8_sensor_133 rfl (lv_at hl 3 rfl) ?_
                  refine c_v hw (run_V (As := [.int (nI ((μ.1 8 1).toNatClampNeg)), .int 3, .int (d)]) (rest := []) (np := 3) hf hw (kn_X8_put l E _  ((μ.1 8 1).toNatClampNeg) 3 d  (show (μ.1 8 1).toNatClampNeg < 6 from (by omega)) (show 3 < 29 from (by decide))) ⟨gl_V q335 q336 q337 q5 q338, by decide +kernel⟩ ⟨rfl, rfl, Nat.le_of_ble_eq_true rfl, Nat.le_of_ble_eq_true rfl⟩ (by decide) (c_R E _) rfl rfl hl.1 rfl (Nat.le_of_ble_eq_true rfl) dX8_sensor_134 ⟨Nat.zero_le _, Nat.zero_le _⟩) (fun H locs hw => ?_)
                  refine lv_aload_n hx hb dX8_sensor_137 rfl (lv_at hl 0 rfl) ?_
                  refine lv_iload hx hb dX8_sensor_138 (lv_at hl 4 rfl) ?_
                  refine lv_iconst (v := 4) hx hb dX8_sensor_140 (by decide) ?_
                  refine lv_aload_n hx hb dX8_sensor_141 rfl (lv_at hl 0 rfl) ?_
                  refine lv_iload_n hx hb dX8_sensor_142 rfl (lv_at hl 1 rfl) ?_
                  refine fold_i (show a = nI (a.toNatClampNeg) from c1a.1) ?_
                  refine c_iR hw (run_V (As := [.int (nI (a.toNatClampNeg))]) (rest := [.int 4, .int (nI ((μ.1 8 1).toNatClampNeg)), .ref (E.1 (232))]) (np := 1) hf hw (kn_X8_first l E _  a.toNatClampNeg  (show a.toNatClampNeg < 3 from c1ab)) ⟨gl_V q263 q264 q265 q5 q266, by decide +kernel⟩ ⟨rfl, rfl, Nat.le_of_ble_eq_true rfl, Nat.le_of_ble_eq_true rfl⟩ (by decide) (c_R E _) rfl rfl hl.1 rfl (Nat.le_of_ble_eq_true rfl) dX8_sensor_143 ⟨Nat.zero_le _, Nat.zero_le _⟩) (fun H locs hw => ?_)
                  refine fold_i (y := ((pM (pM (pM (pM μ1 8 (85 + 29 * ((μ.1 8 1).toNatClampNeg) + 0) (nI (a.toNatClampNeg))) 8 (85 + 29 * ((μ.1 8 1).toNatClampNeg) + 1) b) 8 (85 + 29 * ((μ.1 8 1).toNatClampNeg) + 2) d) 8 (85 + 29 * ((μ.1 8 1).toNatClampNeg) + 3) d).1 8 (11 + 25 * a.toNatClampNeg + 0))) (by first | rfl | (simp [pM, pJ, upM, upJ, upM_r, tk_M, tk_K, tk_0, tk_1, tk_2, tk_3, tk_4, tk_5, tk_6, tk_7, tk_8, tk_9, tk_10, tk_o, ms_0_0, ms_0_1, ms_0_2, ms_0_3, ms_0_4, ms_0_5, ms_0_6, ms_0_7, ms_0_8, ms_0_9, ms_0_10, ms_1_0, ms_1_1, ms_1_2, ms_1_3, ms_1_4, ms_1_5, ms_1_6, ms_1_7, ms_1_8, ms_1_9, ms_1_10, ms_w, ms_r, ms_d, ms_M, ms_6, ms_K, pC_row]; done) | (simp (disch := (first | omega | (simp only [tN, tD, tR, sF]; omega))) only [pM, pJ, upM_s, upM_k, upM_c, upJ_s, upJ_k, upJ_c, tk_M, tk_K, tk_0, tk_1, tk_2, tk_3, tk_4, tk_5, tk_6, tk_7, tk_8, tk_9, tk_10, tk_o, ms_0_0, ms_0_1, ms_0_2, ms_0_3, ms_0_4, ms_0_5, ms_0_6, ms_0_7, ms_0_8, ms_0_9, ms_0_10, ms_1_0, ms_1_1, ms_1_2, ms_1_3, ms_1_4, ms_1_5, ms_1_6, ms_1_7, ms_1_8, ms_1_9, ms_1_10, ms_w, ms_r, ms_d, ms_M, ms_6, ms_K, pC_row]; done) | rfl) ?_
                  refine lv_if_le (tgt := 157) hx hb dX8_sensor_146 (by decide) (fun c9 => ?_) (fun c9 => ?_)
                  · refine lv_aload_n hx hb dX8_sensor_157 rfl (lv_at hl 0 rfl) ?_
                    refine lv_iload_n hx hb dX8_sensor_158 rfl (lv_at hl 1 rfl) ?_
                    refine fold_i (show a = nI (a.toNatClampNeg) from c1a.1) ?_
                    refine c_iR hw (run_V (As := [.int (nI (a.toNatClampNeg))]) (rest := [.int 4, .int (nI ((μ.1 8 1).toNatClampNeg)), .ref (E.1 (232))]) (np := 1) hf hw (kn_X8_last l E _  a.toNatClampNeg  (show a.toNatClampNeg < 3 from c1ab) (show RI _ from (ria_up (ria_up (ria_up (ria_up hi1 (by omega) (fun t ht => by omega) (fun e => (by first | (exfalso; omega) | exact ni_z (by decide) | exact ni_nI (by omega) (by decide) | exact ni_24 c2)) (fun n hn => ⟨fun e => (by first | (exfalso; omega) | exact ni_z (by decide) | exact ni_nI (by omega) (by decide) | exact ni_24 c2), fun e => (by first | (exfalso; omega) | exact ni_z (by decide) | exact ni_nI (by omega) (by decide) | exact ni_24 c2), fun e => (by first | (exfalso; omega) | exact ni_z (by decide) | exact ni_nI (by omega) (by decide) | exact ni_24 c2)⟩)) (by omega) (fun t ht => by omega) (fun e => (by first | (exfalso; omega) | exact ni_z (by decide) | exact ni_nI (by omega) (by decide) | exact ni_24 c2)) (fun n hn => ⟨fun e => (by first | (exfalso; omega) | exact ni_z (by decide) | exact ni_nI (by omega) (by decide) | exact ni_24 c2), fun e => (by first | (exfalso; omega) | exact ni_z (by decide) | exact ni_nI (by omega) (by decide) | exact ni_24 c2), fun e => (by first | (exfalso; omega) | exact ni_z (by decide) | exact ni_nI (by omega) (by decide) | exact ni_24 c2)⟩)) (by omega) (fun t ht => by omega) (fun e => (by first | (exfalso; omega) | exact ni_z (by decide) | exact ni_nI (by omega) (by decide) | exact ni_24 c2)) (fun n hn => ⟨fun e => (by first | (exfalso; omega) | exact ni_z (by decide) | exact ni_nI (by omega) (by decide) | exact ni_24 c2), fun e => (by first | (exfalso; omega) | exact ni_z (by decide) | exact ni_nI (by omega) (by decide) | exact ni_24 c2), fun e => (by first | (exfalso; omega) | exact ni_z (by decide) | exact ni_nI (by omega) (by decide) | exact ni_24 c2)⟩)) (by omega) (fun t ht => by omega) (fun e => (by first | (exfalso; omega) | exact ni_z (by decide) | exact ni_nI (by omega) (by decide) | exact ni_24 c2)) (fun n hn => ⟨fun e => (by first | (exfalso; omega) | exact ni_z (by decide) | exact ni_nI (by omega) (by decide) | exact ni_24 c2), fun e => (by first | (exfalso; omega) | exact ni_z (by decide) | exact ni_nI (by omega) (by decide) | exact ni_24 c2), fun e => (by first | (exfalso; omega) | exact ni_z (by decide) | exact ni_nI (by omega) (by decide) | exact ni_24 c2)⟩))) (by simp (disch := omega) only [rn_pM, hn1]; unfold rN; omega)) ⟨gl_V q267 q268 q269 q5 q270, by decide +kernel⟩ ⟨rfl, rfl, Nat.le_of_ble_eq_true rfl, Nat.le_of_ble_eq_true rfl⟩ (by decide) (c_R E _) rfl rfl hl.1 rfl (Nat.le_of_ble_eq_true rfl) dX8_sensor_159 ⟨Nat.zero_le _, Nat.zero_le _⟩) (fun H locs hw => ?_)
                    refine fold_i (y := rL ((pM (pM (pM (pM μ1 8 (85 + 29 * ((μ.1 8 1).toNatClampNeg) + 0) ((nI (a.toNatClampNeg)))) 8 (85 + 29 * ((μ.1 8 1).toNatClampNeg) + 1) (b)) 8 (85 + 29 * ((μ.1 8 1).toNatClampNeg) + 2) (d)) 8 (85 + 29 * ((μ.1 8 1).toNatClampNeg) + 3) (d)).1 8) a.toNatClampNeg) (by first | rfl | (simp [pM, pJ, upM, upJ, upM_r, tk_M, tk_K, tk_0, tk_1, tk_2, tk_3, tk_4, tk_5, tk_6, tk_7, tk_8, tk_9, tk_10, tk_o, ms_0_0, ms_0_1, ms_0_2, ms_0_3, ms_0_4, ms_0_5, ms_0_6, ms_0_7, ms_0_8, ms_0_9, ms_0_10, ms_1_0, ms_1_1, ms_1_2, ms_1_3, ms_1_4, ms_1_5, ms_1_6, ms_1_7, ms_1_8, ms_1_9, ms_1_10, ms_w, ms_r, ms_d, ms_M, ms_6, ms_K, pC_row]; done) | (simp (disch := (first | omega | (simp only [tN, tD, tR, sF]; omega))) only [pM, pJ, upM_s, upM_k, upM_c, upJ_s, upJ_k, upJ_c, tk_M, tk_K, tk_0, tk_1, tk_2, tk_3, tk_4, tk_5, tk_6, tk_7, tk_8, tk_9, tk_10, tk_o, ms_0_0, ms_0_1, ms_0_2, ms_0_3, ms_0_4, ms_0_5, ms_0_6, ms_0_7, ms_0_8, ms_0_9, ms_0_10, ms_1_0, ms_1_1, ms_1_2, ms_1_3, ms_1_4, ms_1_5, ms_1_6, ms_1_7, ms_1_8, ms_1_9, ms_1_10, ms_w, ms_r, ms_d, ms_M, ms_6, ms_K, pC_row]; done) | rfl) ?_
                    refine lv_if_ge (tgt := 173) hx hb dX8_sensor_162 (by decide) (fun c10 => ?_) (fun c10 => ?_)
                    · refine lv_iconst (v := 0) hx hb dX8_sensor_173 (by decide) ?_
                      refine c_v hw (run_V (As := [.int (nI ((μ.1 8 1).toNatClampNeg)), .int 4, .int 0]) (rest := []) (np := 3) hf hw (kn_X8_put l E _  ((μ.1 8 1).toNatClampNeg) 4 (0 : Int32)  (show (μ.1 8 1).toNatClampNeg < 6 from (by omega)) (show 4 < 29 from (by decide))) ⟨gl_V q335 q336 q337 q5 q338, by decide +kernel⟩ ⟨rfl, rfl, Nat.le_of_ble_eq_true rfl, Nat.le_of_ble_eq_true rfl⟩ (by decide) (c_R E _) rfl rfl hl.1 rfl (Nat.le_of_ble_eq_true rfl) dX8_sensor_174 ⟨Nat.zero_le _, Nat.zero_le _⟩) (fun H locs hw => ?_)
                      refine lv_aload_n hx hb dX8_sensor_177 rfl (lv_at hl 0 rfl) ?_
                      refine lv_iload hx hb dX8_sensor_178 (lv_at hl 4 rfl) ?_
                      refine lv_bipush (v := 13) hx hb dX8_sensor_180 (by decide) ?_
                      refine lv_iconst (v := (-1)) hx hb dX8_sensor_182 (by decide) ?_
                      refine c_v hw (run_V (As := [.int (nI ((μ.1 8 1).toNatClampNeg)), .int 13, .int (-1)]) (rest := []) (np := 3) hf hw (kn_X8_put l E _  ((μ.1 8 1).toNatClampNeg) 13 ((-1) : Int32)  (show (μ.1 8 1).toNatClampNeg < 6 from (by omega)) (show 13 < 29 from (by decide))) ⟨gl_V q335 q336 q337 q5 q338, by decide +kernel⟩ ⟨rfl, rfl, Nat.le_of_ble_eq_true rfl, Nat.le_of_ble_eq_true rfl⟩ (by decide) (c_R E _) rfl rfl hl.1 rfl (Nat.le_of_ble_eq_true rfl) dX8_sensor_183 ⟨Nat.zero_le _, Nat.zero_le _⟩) (fun H locs hw => ?_)
                      refine lv_aload_n hx hb dX8_sensor_186 rfl (lv_at hl 0 rfl) ?_
                      refine lv_iload hx hb dX8_sensor_187 (lv_at hl 4 rfl) ?_
                      refine lv_bipush (v := 14) hx hb dX8_sensor_189 (by decide) ?_
                      refine lv_ldc hx hb hf.2.2.2.1 (hf.2.2.2.2 _ q213) dX8_sensor_191 ?_
                      refine c_v hw (run_V (As := [.int (nI ((μ.1 8 1).toNatClampNeg)), .int 14, .int (-200000)]) (rest := []) (np := 3) hf hw (kn_X8_put l E _  ((μ.1 8 1).toNatClampNeg) 14 ((-200000) : Int32)  (show (μ.1 8 1).toNatClampNeg < 6 from (by omega)) (show 14 < 29 from (by decide))) ⟨gl_V q335 q336 q337 q5 q338, by decide +kernel⟩ ⟨rfl, rfl, Nat.le_of_ble_eq_true rfl, Nat.le_of_ble_eq_true rfl⟩ (by decide) (c_R E _) rfl rfl hl.1 rfl (Nat.le_of_ble_eq_true rfl) dX8_sensor_193 ⟨Nat.zero_le _, Nat.zero_le _⟩) (fun H locs hw => ?_)
                      refine lv_aload_n hx hb dX8_sensor_196 rfl (lv_at hl 0 rfl) ?_
                      refine lv_iload hx hb dX8_sensor_197 (lv_at hl 4 rfl) ?_
                      refine lv_bipush (v := 15) hx hb dX8_sensor_199 (by decide) ?_
                      refine lv_ldc hx hb hf.2.2.2.1 (hf.2.2.2.2 _ q214) dX8_sensor_201 ?_
                      refine c_v hw (run_V (As := [.int (nI ((μ.1 8 1).toNatClampNeg)), .int 15, .int 850000]) (rest := []) (np := 3) hf hw (kn_X8_put l E _  ((μ.1 8 1).toNatClampNeg) 15 (850000 : Int32)  (show (μ.1 8 1).toNatClampNeg < 6 from (by omega)) (show 15 < 29 from (by decide))) ⟨gl_V q335 q336 q337 q5 q338, by decide +kernel⟩ ⟨rfl, rfl, Nat.le_of_ble_eq_true rfl, Nat.le_of_ble_eq_true rfl⟩ (by decide) (c_R E _) rfl rfl hl.1 rfl (Nat.le_of_ble_eq_true rfl) dX8_sensor_203 ⟨Nat.zero_le _, Nat.zero_le _⟩) (fun H locs hw => ?_)
                      refine lv_aload_n hx hb dX8_sensor_206 rfl (lv_at hl 0 rfl) ?_
                      refine lv_iload hx hb dX8_sensor_207 (lv_at hl 4 rfl) ?_
                      refine c_i hw (run_V (As := [.int (nI ((μ.1 8 1).toNatClampNeg))]) (rest := []) (np := 1) hf hw (k_X8_acted l E _  (nI ((μ.1 8 1).toNatClampNeg))   (by simp only [ty_up1 (show (8 : Nat) ≠ 7 by decide)]; exact hs1)) ⟨gl_V q150 q151 q152 q5 q153, by decide +kernel⟩ ⟨rfl, rfl, Nat.le_of_ble_eq_true rfl, Nat.le_of_ble_eq_true rfl⟩ (by decide) (c_R E _) rfl rfl hl.1 rfl (Nat.le_of_ble_eq_true rfl) dX8_sensor_209 ⟨Nat.zero_le _, Nat.zero_le _⟩) (fun H locs hw => ?_)
                      exact e_i hf hr hlocks hw rfl ((hq).trans ((if_pos c8).trans ((if_pos c9).trans ((if_pos c10).trans rfl)))) dX8_sensor_212
                    · refine lv_aload_n hx hb dX8_sensor_165 rfl (lv_at hl 0 rfl) ?_
                      refine lv_iload_n hx hb dX8_sensor_166 rfl (lv_at hl 1 rfl) ?_
                      refine fold_i (show a = nI (a.toNatClampNeg) from c1a.1) ?_
                      refine c_iR hw (run_V (As := [.int (nI (a.toNatClampNeg))]) (rest := [.int 4, .int (nI ((μ.1 8 1).toNatClampNeg)), .ref (E.1 (232))]) (np := 1) hf hw (kn_X8_last l E _  a.toNatClampNeg  (show a.toNatClampNeg < 3 from c1ab) (show RI _ from (ria_up (ria_up (ria_up (ria_up hi1 (by omega) (fun t ht => by omega) (fun e => (by first | (exfalso; omega) | exact ni_z (by decide) | exact ni_nI (by omega) (by decide) | exact ni_24 c2)) (fun n hn => ⟨fun e => (by first | (exfalso; omega) | exact ni_z (by decide) | exact ni_nI (by omega) (by decide) | exact ni_24 c2), fun e => (by first | (exfalso; omega) | exact ni_z (by decide) | exact ni_nI (by omega) (by decide) | exact ni_24 c2), fun e => (by first | (exfalso; omega) | exact ni_z (by decide) | exact ni_nI (by omega) (by decide) | exact ni_24 c2)⟩)) (by omega) (fun t ht => by omega) (fun e => (by first | (exfalso; omega) | exact ni_z (by decide) | exact ni_nI (by omega) (by decide) | exact ni_24 c2)) (fun n hn => ⟨fun e => (by first | (exfalso; omega) | exact ni_z (by decide) | exact ni_nI (by omega) (by decide) | exact ni_24 c2), fun e => (by first | (exfalso; omega) | exact ni_z (by decide) | exact ni_nI (by omega) (by decide) | exact ni_24 c2), fun e => (by first | (exfalso; omega) | exact ni_z (by decide) | exact ni_nI (by omega) (by decide) | exact ni_24 c2)⟩)) (by omega) (fun t ht => by omega) (fun e => (by first | (exfalso; omega) | exact ni_z (by decide) | exact ni_nI (by omega) (by decide) | exact ni_24 c2)) (fun n hn => ⟨fun e => (by first | (exfalso; omega) | exact ni_z (by decide) | exact ni_nI (by omega) (by decide) | exact ni_24 c2), fun e => (by first | (exfalso; omega) | exact ni_z (by decide) | exact ni_nI (by omega) (by decide) | exact ni_24 c2), fun e => (by first | (exfalso; omega) | exact ni_z (by decide) | exact ni_nI (by omega) (by decide) | exact ni_24 c2)⟩)) (by omega) (fun t ht => by omega) (fun e => (by first | (exfalso; omega) | exact ni_z (by decide) | exact ni_nI (by omega) (by decide) | exact ni_24 c2)) (fun n hn => ⟨fun e => (by first | (exfalso; omega) | exact ni_z (by decide) | exact ni_nI (by omega) (by decide) | exact ni_24 c2), fun e => (by first | (exfalso; omega) | exact ni_z (by decide) | exact ni_nI (by omega) (by decide) | exact ni_24 c2), fun e => (by first | (exfalso; omega) | exact ni_z (by decide) | exact ni_nI (by omega) (by decide) | exact ni_24 c2)⟩))) (by simp (disch := omega) only [rn_pM, hn1]; unfold rN; omega)) ⟨gl_V q267 q268 q269 q5 q270, by decide +kernel⟩ ⟨rfl, rfl, Nat.le_of_ble_eq_true rfl, Nat.le_of_ble_eq_true rfl⟩ (by decide) (c_R E _) rfl rfl hl.1 rfl (Nat.le_of_ble_eq_true rfl) dX8_sensor_167 ⟨Nat.zero_le _, Nat.zero_le _⟩) (fun H locs hw => ?_)
                      refine fold_i (y := rL ((pM (pM (pM (pM μ1 8 (85 + 29 * ((μ.1 8 1).toNatClampNeg) + 0) ((nI (a.toNatClampNeg)))) 8 (85 + 29 * ((μ.1 8 1).toNatClampNeg) + 1) (b)) 8 (85 + 29 * ((μ.1 8 1).toNatClampNeg) + 2) (d)) 8 (85 + 29 * ((μ.1 8 1).toNatClampNeg) + 3) (d)).1 8) a.toNatClampNeg) (by first | rfl | (simp [pM, pJ, upM, upJ, upM_r, tk_M, tk_K, tk_0, tk_1, tk_2, tk_3, tk_4, tk_5, tk_6, tk_7, tk_8, tk_9, tk_10, tk_o, ms_0_0, ms_0_1, ms_0_2, ms_0_3, ms_0_4, ms_0_5, ms_0_6, ms_0_7, ms_0_8, ms_0_9, ms_0_10, ms_1_0, ms_1_1, ms_1_2, ms_1_3, ms_1_4, ms_1_5, ms_1_6, ms_1_7, ms_1_8, ms_1_9, ms_1_10, ms_w, ms_r, ms_d, ms_M, ms_6, ms_K, pC_row]; done) | (simp (disch := (first | omega | (simp only [tN, tD, tR, sF]; omega))) only [pM, pJ, upM_s, upM_k, upM_c, upJ_s, upJ_k, upJ_c, tk_M, tk_K, tk_0, tk_1, tk_2, tk_3, tk_4, tk_5, tk_6, tk_7, tk_8, tk_9, tk_10, tk_o, ms_0_0, ms_0_1, ms_0_2, ms_0_3, ms_0_4, ms_0_5, ms_0_6, ms_0_7, ms_0_8, ms_0_9, ms_0_10, ms_1_0, ms_1_1, ms_1_2, ms_1_3, ms_1_4, ms_1_5, ms_1_6, ms_1_7, ms_1_8, ms_1_9, ms_1_10, ms_w, ms_r, ms_d, ms_M, ms_6, ms_K, pC_row]; done) | rfl) ?_
                      refine lv_goto (tgt := 174) hx hb dX8_sensor_170 (by decide) ?_
                      refine c_v hw (run_V (As := [.int (nI ((μ.1 8 1).toNatClampNeg)), .int 4, .int (rL ((pM (pM (pM (pM μ1 8 (85 + 29 * ((μ.1 8 1).toNatClampNeg) + 0) ((nI (a.toNatClampNeg)))) 8 (85 + 29 * ((μ.1 8 1).toNatClampNeg) + 1) (b)) 8 (85 + 29 * ((μ.1 8 1).toNatClampNeg) + 2) (d)) 8 (85 + 29 * ((μ.1 8 1).toNatClampNeg) + 3) (d)).1 8) a.toNatClampNeg)]) (rest := []) (np := 3) hf hw (kn_X8_put l E _  ((μ.1 8 1).toNatClampNeg) 4 (rL ((pM (pM (pM (pM μ1 8 (85 + 29 * ((μ.1 8 1).toNatClampNeg) + 0) ((nI (a.toNatClampNeg)))) 8 (85 + 29 * ((μ.1 8 1).toNatClampNeg) + 1) (b)) 8 (85 + 29 * ((μ.1 8 1).toNatClampNeg) + 2) (d)) 8 (85 + 29 * ((μ.1 8 1).toNatClampNeg) + 3) (d)).1 8) a.toNatClampNeg)  (show (μ.1 8 1).toNatClampNeg < 6 from (by omega)) (show 4 < 29 from (by decide))) ⟨gl_V q335 q336 q337 q5 q338, by decide +kernel⟩ ⟨rfl, rfl, Nat.le_of_ble_eq_true rfl, Nat.le_of_ble_eq_true rfl⟩ (by decide) (c_R E _) rfl rfl hl.1 rfl (Nat.le_of_ble_eq_true rfl) dX8_sensor_174 ⟨Nat.zero_le _, Nat.zero_le _⟩) (fun H locs hw => ?_)
                      refine lv_aload_n hx hb dX8_sensor_177 rfl (lv_at hl 0 rfl) ?_
                      refine lv_iload hx hb dX8_sensor_178 (lv_at hl 4 rfl) ?_
                      refine lv_bipush (v := 13) hx hb dX8_sensor_180 (by decide) ?_
                      refine lv_iconst (v := (-1)) hx hb dX8_sensor_182 (by decide) ?_
                      refine c_v hw (run_V (As := [.int (nI ((μ.1 8 1).toNatClampNeg)), .int 13, .int (-1)]) (rest := []) (np := 3) hf hw (kn_X8_put l E _  ((μ.1 8 1).toNatClampNeg) 13 ((-1) : Int32)  (show (μ.1 8 1).toNatClampNeg < 6 from (by omega)) (show 13 < 29 from (by decide))) ⟨gl_V q335 q336 q337 q5 q338, by decide +kernel⟩ ⟨rfl, rfl, Nat.le_of_ble_eq_true rfl, Nat.le_of_ble_eq_true rfl⟩ (by decide) (c_R E _) rfl rfl hl.1 rfl (Nat.le_of_ble_eq_true rfl) dX8_sensor_183 ⟨Nat.zero_le _, Nat.zero_le _⟩) (fun H locs hw => ?_)
                      refine lv_aload_n hx hb dX8_sensor_186 rfl (lv_at hl 0 rfl) ?_
                      refine lv_iload hx hb dX8_sensor_187 (lv_at hl 4 rfl) ?_
                      refine lv_bipush (v := 14) hx hb dX8_sensor_189 (by decide) ?_
                      refine lv_ldc hx hb hf.2.2.2.1 (hf.2.2.2.2 _ q213) dX8_sensor_191 ?_
                      refine c_v hw (run_V (As := [.int (nI ((μ.1 8 1).toNatClampNeg)), .int 14, .int (-200000)]) (rest := []) (np := 3) hf hw (kn_X8_put l E _  ((μ.1 8 1).toNatClampNeg) 14 ((-200000) : Int32)  (show (μ.1 8 1).toNatClampNeg < 6 from (by omega)) (show 14 < 29 from (by decide))) ⟨gl_V q335 q336 q337 q5 q338, by decide +kernel⟩ ⟨rfl, rfl, Nat.le_of_ble_eq_true rfl, Nat.le_of_ble_eq_true rfl⟩ (by decide) (c_R E _) rfl rfl hl.1 rfl (Nat.le_of_ble_eq_true rfl) dX8_sensor_193 ⟨Nat.zero_le _, Nat.zero_le _⟩) (fun H locs hw => ?_)
                      refine lv_aload_n hx hb dX8_sensor_196 rfl (lv_at hl 0 rfl) ?_
                      refine lv_iload hx hb dX8_sensor_197 (lv_at hl 4 rfl) ?_
                      refine lv_bipush (v := 15) hx hb dX8_sensor_199 (by decide) ?_
                      refine lv_ldc hx hb hf.2.2.2.1 (hf.2.2.2.2 _ q214) dX8_sensor_201 ?_
                      refine c_v hw (run_V (As := [.int (nI ((μ.1 8 1).toNatClampNeg)), .int 15, .int 850000]) (rest := []) (np := 3) hf hw (kn_X8_put l E _  ((μ.1 8 1).toNatClampNeg) 15 (850000 : Int32)  (show (μ.1 8 1).toNatClampNeg < 6 from (by omega)) (show 15 < 29 from (by decide))) ⟨gl_V q335 q336 q337 q5 q338, by decide +kernel⟩ ⟨rfl, rfl, Nat.le_of_ble_eq_true rfl, Nat.le_of_ble_eq_true rfl⟩ (by decide) (c_R E _) rfl rfl hl.1 rfl (Nat.le_of_ble_eq_true rfl) dX8_sensor_203 ⟨Nat.zero_le _, Nat.zero_le _⟩) (fun H locs hw => ?_)
                      refine lv_aload_n hx hb dX8_sensor_206 rfl (lv_at hl 0 rfl) ?_
                      refine lv_iload hx hb dX8_sensor_207 (lv_at hl 4 rfl) ?_
                      refine c_i hw (run_V (As := [.int (nI ((μ.1 8 1).toNatClampNeg))]) (rest := []) (np := 1) hf hw (k_X8_acted l E _  (nI ((μ.1 8 1).toNatClampNeg))   (by simp only [ty_up1 (show (8 : Nat) ≠ 7 by decide)]; exact hs1)) ⟨gl_V q150 q151 q152 q5 q153, by decide +kernel⟩ ⟨rfl, rfl, Nat.le_of_ble_eq_true rfl, Nat.le_of_ble_eq_true rfl⟩ (by decide) (c_R E _) rfl rfl hl.1 rfl (Nat.le_of_ble_eq_true rfl) dX8_sensor_209 ⟨Nat.zero_le _, Nat.zero_le _⟩) (fun H locs hw => ?_)
                      exact e_i hf hr hlocks hw rfl ((hq).trans ((if_pos c8).trans ((if_pos c9).trans ((if_neg c10).trans rfl)))) dX8_sensor_212
                  · refine lv_aload_n hx hb dX8_sensor_149 rfl (lv_at hl 0 rfl) ?_
                    refine lv_iload_n hx hb dX8_sensor_150 rfl (lv_at hl 1 rfl) ?_
                    refine fold_i (show a = nI (a.toNatClampNeg) from c1a.1) ?_
                    refine c_iR hw (run_V (As := [.int (nI (a.toNatClampNeg))]) (rest := [.int 4, .int (nI ((μ.1 8 1).toNatClampNeg)), .ref (E.1 (232))]) (np := 1) hf hw (kn_X8_first l E _  a.toNatClampNeg  (show a.toNatClampNeg < 3 from c1ab)) ⟨gl_V q263 q264 q265 q5 q266, by decide +kernel⟩ ⟨rfl, rfl, Nat.le_of_ble_eq_true rfl, Nat.le_of_ble_eq_true rfl⟩ (by decide) (c_R E _) rfl rfl hl.1 rfl (Nat.le_of_ble_eq_true rfl) dX8_sensor_151 ⟨Nat.zero_le _, Nat.zero_le _⟩) (fun H locs hw => ?_)
                    refine fold_i (y := ((pM (pM (pM (pM μ1 8 (85 + 29 * ((μ.1 8 1).toNatClampNeg) + 0) (nI (a.toNatClampNeg))) 8 (85 + 29 * ((μ.1 8 1).toNatClampNeg) + 1) b) 8 (85 + 29 * ((μ.1 8 1).toNatClampNeg) + 2) d) 8 (85 + 29 * ((μ.1 8 1).toNatClampNeg) + 3) d).1 8 (11 + 25 * a.toNatClampNeg + 0))) (by first | rfl | (simp [pM, pJ, upM, upJ, upM_r, tk_M, tk_K, tk_0, tk_1, tk_2, tk_3, tk_4, tk_5, tk_6, tk_7, tk_8, tk_9, tk_10, tk_o, ms_0_0, ms_0_1, ms_0_2, ms_0_3, ms_0_4, ms_0_5, ms_0_6, ms_0_7, ms_0_8, ms_0_9, ms_0_10, ms_1_0, ms_1_1, ms_1_2, ms_1_3, ms_1_4, ms_1_5, ms_1_6, ms_1_7, ms_1_8, ms_1_9, ms_1_10, ms_w, ms_r, ms_d, ms_M, ms_6, ms_K, pC_row]; done) | (simp (disch := (first | omega | (simp only [tN, tD, tR, sF]; omega))) only [pM, pJ, upM_s, upM_k, upM_c, upJ_s, upJ_k, upJ_c, tk_M, tk_K, tk_0, tk_1, tk_2, tk_3, tk_4, tk_5, tk_6, tk_7, tk_8, tk_9, tk_10, tk_o, ms_0_0, ms_0_1, ms_0_2, ms_0_3, ms_0_4, ms_0_5, ms_0_6, ms_0_7, ms_0_8, ms_0_9, ms_0_10, ms_1_0, ms_1_1, ms_1_2, ms_1_3, ms_1_4, ms_1_5, ms_1_6, ms_1_7, ms_1_8, ms_1_9, ms_1_10, ms_w, ms_r, ms_d, ms_M, ms_6, ms_K, pC_row]; done) | rfl) ?_
                    refine lv_goto (tgt := 174) hx hb dX8_sensor_154 (by decide) ?_
                    refine c_v hw (run_V (As := [.int (nI ((μ.1 8 1).toNatClampNeg)), .int 4, .int (((pM (pM (pM (pM μ1 8 (85 + 29 * ((μ.1 8 1).toNatClampNeg) + 0) (nI (a.toNatClampNeg))) 8 (85 + 29 * ((μ.1 8 1).toNatClampNeg) + 1) b) 8 (85 + 29 * ((μ.1 8 1).toNatClampNeg) + 2) d) 8 (85 + 29 * ((μ.1 8 1).toNatClampNeg) + 3) d).1 8 (11 + 25 * a.toNatClampNeg + 0)))]) (rest := []) (np := 3) hf hw (kn_X8_put l E _  ((μ.1 8 1).toNatClampNeg) 4 ((pM (pM (pM (pM μ1 8 (85 + 29 * ((μ.1 8 1).toNatClampNeg) + 0) (nI (a.toNatClampNeg))) 8 (85 + 29 * ((μ.1 8 1).toNatClampNeg) + 1) b) 8 (85 + 29 * ((μ.1 8 1).toNatClampNeg) + 2) d) 8 (85 + 29 * ((μ.1 8 1).toNatClampNeg) + 3) d).1 8 (11 + 25 * a.toNatClampNeg + 0))  (show (μ.1 8 1).toNatClampNeg < 6 from (by omega)) (show 4 < 29 from (by decide))) ⟨gl_V q335 q336 q337 q5 q338, by decide +kernel⟩ ⟨rfl, rfl, Nat.le_of_ble_eq_true rfl, Nat.le_of_ble_eq_true rfl⟩ (by decide) (c_R E _) rfl rfl hl.1 rfl (Nat.le_of_ble_eq_true rfl) dX8_sensor_174 ⟨Nat.zero_le _, Nat.zero_le _⟩) (fun H locs hw => ?_)
                    refine lv_aload_n hx hb dX8_sensor_177 rfl (lv_at hl 0 rfl) ?_
                    refine lv_iload hx hb dX8_sensor_178 (lv_at hl 4 rfl) ?_
                    refine lv_bipush (v := 13) hx hb dX8_sensor_180 (by decide) ?_
                    refine lv_iconst (v := (-1)) hx hb dX8_sensor_182 (by decide) ?_
                    refine c_v hw (run_V (As := [.int (nI ((μ.1 8 1).toNatClampNeg)), .int 13, .int (-1)]) (rest := []) (np := 3) hf hw (kn_X8_put l E _  ((μ.1 8 1).toNatClampNeg) 13 ((-1) : Int32)  (show (μ.1 8 1).toNatClampNeg < 6 from (by omega)) (show 13 < 29 from (by decide))) ⟨gl_V q335 q336 q337 q5 q338, by decide +kernel⟩ ⟨rfl, rfl, Nat.le_of_ble_eq_true rfl, Nat.le_of_ble_eq_true rfl⟩ (by decide) (c_R E _) rfl rfl hl.1 rfl (Nat.le_of_ble_eq_true rfl) dX8_sensor_183 ⟨Nat.zero_le _, Nat.zero_le _⟩) (fun H locs hw => ?_)
                    refine lv_aload_n hx hb dX8_sensor_186 rfl (lv_at hl 0 rfl) ?_
                    refine lv_iload hx hb dX8_sensor_187 (lv_at hl 4 rfl) ?_
                    refine lv_bipush (v := 14) hx hb dX8_sensor_189 (by decide) ?_
                    refine lv_ldc hx hb hf.2.2.2.1 (hf.2.2.2.2 _ q213) dX8_sensor_191 ?_
                    refine c_v hw (run_V (As := [.int (nI ((μ.1 8 1).toNatClampNeg)), .int 14, .int (-200000)]) (rest := []) (np := 3) hf hw (kn_X8_put l E _  ((μ.1 8 1).toNatClampNeg) 14 ((-200000) : Int32)  (show (μ.1 8 1).toNatClampNeg < 6 from (by omega)) (show 14 < 29 from (by decide))) ⟨gl_V q335 q336 q337 q5 q338, by decide +kernel⟩ ⟨rfl, rfl, Nat.le_of_ble_eq_true rfl, Nat.le_of_ble_eq_true rfl⟩ (by decide) (c_R E _) rfl rfl hl.1 rfl (Nat.le_of_ble_eq_true rfl) dX8_sensor_193 ⟨Nat.zero_le _, Nat.zero_le _⟩) (fun H locs hw => ?_)
                    refine lv_aload_n hx hb dX8_sensor_196 rfl (lv_at hl 0 rfl) ?_
                    refine lv_iload hx hb dX8_sensor_197 (lv_at hl 4 rfl) ?_
                    refine lv_bipush (v := 15) hx hb dX8_sensor_199 (by decide) ?_
                    refine lv_ldc hx hb hf.2.2.2.1 (hf.2.2.2.2 _ q214) dX8_sensor_201 ?_
                    refine c_v hw (run_V (As := [.int (nI ((μ.1 8 1).toNatClampNeg)), .int 15, .int 850000]) (rest := []) (np := 3) hf hw (kn_X8_put l E _  ((μ.1 8 1).toNatClampNeg) 15 (850000 : Int32)  (show (μ.1 8 1).toNatClampNeg < 6 from (by omega)) (show 15 < 29 from (by decide))) ⟨gl_V q335 q336 q337 q5 q338, by decide +kernel⟩ ⟨rfl, rfl, Nat.le_of_ble_eq_true rfl, Nat.le_of_ble_eq_true rfl⟩ (by decide) (c_R E _) rfl rfl hl.1 rfl (Nat.le_of_ble_eq_true rfl) dX8_sensor_203 ⟨Nat.zero_le _, Nat.zero_le _⟩) (fun H locs hw => ?_)
                    refine lv_aload_n hx hb dX8_sensor_206 rfl (lv_at hl 0 rfl) ?_
                    refine lv_iload hx hb dX8_sensor_207 (lv_at hl 4 rfl) ?_
                    refine c_i hw (run_V (As := [.int (nI ((μ.1 8 1).toNatClampNeg))]) (rest := []) (np := 1) hf hw (k_X8_acted l E _  (nI ((μ.1 8 1).toNatClampNeg))   (by simp only [ty_up1 (show (8 : Nat) ≠ 7 by decide)]; exact hs1)) ⟨gl_V q150 q151 q152 q5 q153, by decide +kernel⟩ ⟨rfl, rfl, Nat.le_of_ble_eq_true rfl, Nat.le_of_ble_eq_true rfl⟩ (by decide) (c_R E _) rfl rfl hl.1 rfl (Nat.le_of_ble_eq_true rfl) dX8_sensor_209 ⟨Nat.zero_le _, Nat.zero_le _⟩) (fun H locs hw => ?_)
                    exact e_i hf hr hlocks hw rfl ((hq).trans ((if_pos c8).trans ((if_neg c9).trans rfl))) dX8_sensor_212
                · have c8n : ¬ 29 ≤ k := by have q := (nI_leI (a := 29) (b := k) (by omega) (by omega)); first | exact q.mp c8 | exact fun z => c8 (q.mpr z)
                  refine lv_aload_n hx hb dX8_sensor_90 rfl (lv_at hl 0 rfl) ?_
                  refine lv_iload hx hb dX8_sensor_91 (lv_at hl 4 rfl) ?_
                  refine lv_iload hx hb dX8_sensor_93 (lv_at hl 5 rfl) ?_
                  refine lv_iconst (v := 0) hx hb dX8_sensor_95 (by decide) ?_
                  refine c_v hw (run_V (As := [.int (nI ((μ.1 8 1).toNatClampNeg)), .int (nI k), .int 0]) (rest := []) (np := 3) hf hw (kn_X8_put l E _  ((μ.1 8 1).toNatClampNeg) k (0 : Int32)  (show (μ.1 8 1).toNatClampNeg < 6 from (by omega)) (show k < 29 from (by omega))) ⟨gl_V q335 q336 q337 q5 q338, by decide +kernel⟩ ⟨rfl, rfl, Nat.le_of_ble_eq_true rfl, Nat.le_of_ble_eq_true rfl⟩ (by decide) (c_R E _) rfl rfl hl.1 rfl (Nat.le_of_ble_eq_true rfl) dX8_sensor_96 ⟨Nat.zero_le _, Nat.zero_le _⟩) (fun H locs hw => ?_)
                  refine lv_iinc (v := nI (k + 1)) (lv' := [(5, .int (nI (k + 1))), (0, .ref (E.1 (232))), (1, .int (a)), (2, .int (b)), (3, .int (d)), (4, .int (nI ((μ.1 8 1).toNatClampNeg)))]) hx hb dX8_sensor_99 hl (k := 5) rfl (nI_1 _) (by decide) rfl (fun ls hl => ?_)
                  refine lv_goto (tgt := 83) hx hb dX8_sensor_102 (by decide) ?_
                  exact ih (k + 1) (pM μ1 8 (85 + 29 * ((μ.1 8 1).toNatClampNeg) + k) (0 : Int32)) (by omega) (by omega) (ria_up hi1 (by omega) (fun t ht => by omega) (fun e => (by first | (exfalso; omega) | exact ni_z (by decide) | exact ni_nI (by omega) (by decide) | exact ni_24 c2)) (fun n hn => ⟨fun e => (by first | (exfalso; omega) | exact ni_z (by decide) | exact ni_nI (by omega) (by decide) | exact ni_24 c2), fun e => (by first | (exfalso; omega) | exact ni_z (by decide) | exact ni_nI (by omega) (by decide) | exact ni_24 c2), fun e => (by first | (exfalso; omega) | exact ni_z (by decide) | exact ni_nI (by omega) (by decide) | exact ni_24 c2)⟩)) (by rw [rn_pM (by omega)]; exact hn1) (by rw [ty_up1 (by decide)]; exact hs1) (((hq).trans ((if_neg c8).trans rfl))) _ _ _ (lv_sub hl [1, 2, 3, 4, 5, 0] rfl) hw
            exact key_83 30 0 (pM (pC μ 11 0 8 0 259) 8 1 (nI ((μ.1 8 1).toNatClampNeg + 1))) (by omega) (by omega) (ria_up (ria_pC (by decide) hh) (by omega) (fun t ht => by omega) (fun e => (by first | (exfalso; omega) | exact ni_z (by decide) | exact ni_nI (by omega) (by decide) | exact ni_24 c2)) (fun n hn => ⟨fun e => (by first | (exfalso; omega) | exact ni_z (by decide) | exact ni_nI (by omega) (by decide) | exact ni_24 c2), fun e => (by first | (exfalso; omega) | exact ni_z (by decide) | exact ni_nI (by omega) (by decide) | exact ni_24 c2), fun e => (by first | (exfalso; omega) | exact ni_z (by decide) | exact ni_nI (by omega) (by decide) | exact ni_24 c2)⟩)) (by rw [rn_pM (by omega), pC_row (by decide)]) (by rw [ty_up1 (by decide), pC_row (by decide)]; exact hst) (((if_pos c1).trans ((if_pos c2).trans ((if_pos c3).trans ((if_pos c5).trans ((if_neg c7).trans rfl)))))) _ _ _ (lv_sub hl [2, 3, 4, 5, 1, 0] rfl) hw
          · have c7n : ((μ.1 8 1).toNatClampNeg) = 6 := by have q := (nI_eq (a := ((μ.1 8 1).toNatClampNeg)) (b := 6) (by omega) (by omega)); first | exact q.mp c7 | exact fun z => c7 (q.mpr z)
            refine lv_ldc hx hb hf.2.2.2.1 (hf.2.2.2.2 _ q145) dX8_sensor_55 ?_
            exact e_i hf hr hlocks hw rfl ((if_pos c1).trans ((if_pos c2).trans ((if_pos c3).trans ((if_pos c5).trans ((if_pos c7).trans rfl))))) dX8_sensor_57
        · have c5n : ¬ 2 ≤ ((μ.1 8 (10 + 25 * a.toNatClampNeg)).toNatClampNeg) := by have q := (nI_leI (a := 2) (b := ((μ.1 8 (10 + 25 * a.toNatClampNeg)).toNatClampNeg)) (by omega) (by omega)); first | exact q.mp c5 | exact fun z => c5 (q.mpr z)
          refine lv_ldc hx hb hf.2.2.2.1 (hf.2.2.2.2 _ q202) dX8_sensor_41 ?_
          exact e_i hf hr hlocks hw rfl ((if_pos c1).trans ((if_pos c2).trans ((if_pos c3).trans ((if_neg c5).trans rfl)))) dX8_sensor_43
      · replace c3 := (bz_0 _).mp c3
        refine lv_ldc hx hb hf.2.2.2.1 (hf.2.2.2.2 _ q154) dX8_sensor_29 ?_
        exact e_i hf hr hlocks hw rfl ((if_pos c1).trans ((if_pos c2).trans ((if_neg c3).trans rfl))) dX8_sensor_31
