/-! ===== the law: holds ===== -/
section AR
variable {g : Nat → Int32} {N k f : Nat} {x : Int32}
theorem ar_go (h1 : g 1 = nI N) (hN : N ≤ 6) (hk : k < N) : lp_X4_allReadings_4 g (f + 1) x k = lp_X4_allReadings_4 g f (x + g (sF k 11)) (k + 1) := by
  rw [lp_X4_allReadings_4, h1, if_neg (by rw [nI_leI (by omega) (by omega)]; omega), if_neg (by rw [show (6 : Int32) = nI 6 from rfl, nI_leI (by omega) (by omega)]; omega)]
theorem ar_end (h1 : g 1 = nI N) (hN : N ≤ 6) (hk : N ≤ k) (hk2 : k ≤ 6 := by omega) : lp_X4_allReadings_4 g (f + 1) x k = x := by
  rw [lp_X4_allReadings_4, h1, if_pos ((nI_leI (by omega) (by omega)).mpr hk)]
theorem al_go (h1 : g 1 = nI N) (hN : N ≤ 6) (hk : k < N) : lp_X4_alarmsOn_4 g (f + 1) x k = lp_X4_alarmsOn_4 g f (x + g (sF k 10)) (k + 1) := by
  rw [lp_X4_alarmsOn_4, h1, if_neg (by rw [nI_leI (by omega) (by omega)]; omega), if_neg (by rw [show (6 : Int32) = nI 6 from rfl, nI_leI (by omega) (by omega)]; omega)]
theorem al_end (h1 : g 1 = nI N) (hN : N ≤ 6) (hk : N ≤ k) (hk2 : k ≤ 6 := by omega) : lp_X4_alarmsOn_4 g (f + 1) x k = x := by
  rw [lp_X4_alarmsOn_4, h1, if_pos ((nI_leI (by omega) (by omega)).mpr hk)]
end AR
set_option maxHeartbeats 8000000 in
set_option maxRecDepth 100000 in
theorem k_L_holds (l : Launch) (E : En) (μ : Mu) {T N B : Nat} (h : Gd (μ.1 0) T N B) {y : Int32} (hy : 0 ≤ y.toInt) : MtP l yL_holds cL_holds 6 .boolean ({ frames := 6, cells := 0, slots := 0, locals := 161 }) [.ref (E.1 231), .int y] E μ (fun r u => r = 1 ∧ Same μ u) := by
  refine mt_of (by decide +kernel) (Nat.le_of_ble_eq_true rfl) ?_
  intro p e s m args below meth c ls hf hr hlocks hl hw
  have hx := hf.1
  have hb := hf.2.1
  have hl : lv_has ls 6 [(0, .ref (E.1 231)), (1, .int y)] := hl
  have hN : N ≤ 6 := by have := h.1.2; omega
  have hT2 : T ≤ 2 := h.1.1
  have h1 := h.2.1.2
  have L2 : ∀ (f k : Nat) (x z : Int32) (μa : Mu) (H : Heap) (locs : List Loc) (ls : Array Slot), k + f = N → Same μ μa → lp_X4_allReadings_4 (μ.1 0) (f + (6 - N) + 1) x k = sp_X4_allReadings (μ.1 0) → lp_X4_alarmsOn_4 (μ.1 0) (f + (6 - N) + 1) z k = sp_X4_alarmsOn (μ.1 0) → lv_has ls 6 [(5, .int (nI k)), (4, .int 1), (3, .int z), (2, .int x), (0, .ref (E.1 231)), (1, .int y)] → Wk E μa s H locs → W p l e ({ frames := 6, cells := 0, slots := 0, locals := 161 }) s m args below meth c H locs 0 0 (MQ below (va_Qi (fun r u => r = 1 ∧ Same μ u) (fun u t => WdU E u t) (inE E)) args s 0 0 (inE E)) (F0 m 43 ls []) := by
    intro f
    induction f with
    | zero =>
      intro k x z μa H locs ls hkf sa h11 h10 hl hw
      refine lv_iload hx hb dL_holds_43 (lv_at hl 0 rfl) ?_
      refine lv_aload_n hx hb dL_holds_45 rfl (lv_at hl 4 rfl) ?_
      refine lv_iconst (v := 1) hx hb dL_holds_46 (by decide) ?_
      refine c_iV (v := nI N) (P := fun z => Same μ z) (a_c1 sa h) hw (run_V (As := [.int 1]) (rest := [.int (nI k)]) (np := 1) hf hw (k_X7_count l E _ 1) ⟨gl_V q98 q99 q100 q2 q101, by decide +kernel⟩ ⟨rfl, rfl, Nat.le_of_ble_eq_true rfl, Nat.le_of_ble_eq_true rfl⟩ (by decide) (c_O E _) rfl rfl hl.1 rfl (Nat.le_of_ble_eq_true rfl) dL_holds_47 ⟨Nat.zero_le _, Nat.zero_le _⟩) (fun μ1 H locs s1 hw => ?_)
      refine lv_icmp_ge (tgt := 94) hx hb dL_holds_50 (by decide) (fun _ => ?_) (fun c => absurd (by rw [show k = N by omega]; exact nI_le (Nat.le_refl _) (by omega)) c)
      refine lv_iload hx hb dL_holds_94 (lv_at hl 1 rfl) ?_
      refine lv_if_eq (tgt := 121) hx hb dL_holds_96 (by decide) (fun c => absurd c (by decide)) (fun _ => ?_)
      refine lv_aload_n hx hb dL_holds_99 rfl (lv_at hl 4 rfl) ?_
      refine lv_iconst (v := 4) hx hb dL_holds_100 (by decide) ?_
      refine c_iV (v := sp_X4_allReadings (μ.1 0)) (P := fun z => Same μ z) (a_c4 s1) hw (run_V (As := [.int 4]) (rest := []) (np := 1) hf hw (k_X7_count l E _ 4) ⟨gl_V q98 q99 q100 q2 q101, by decide +kernel⟩ ⟨rfl, rfl, Nat.le_of_ble_eq_true rfl, Nat.le_of_ble_eq_true rfl⟩ (by decide) (c_O E _) rfl rfl hl.1 rfl (Nat.le_of_ble_eq_true rfl) dL_holds_101 ⟨Nat.zero_le _, Nat.zero_le _⟩) (fun μ2 H locs s2 hw => ?_)
      refine lv_iload_n hx hb dL_holds_104 rfl (lv_at hl 3 rfl) ?_
      refine lv_icmp_ne (tgt := 121) hx hb dL_holds_105 (by decide) (fun c => absurd (by rw [← h11]; exact ar_end h1 hN (by omega)) c) (fun _ => ?_)
      refine lv_aload_n hx hb dL_holds_108 rfl (lv_at hl 4 rfl) ?_
      refine lv_iconst (v := 3) hx hb dL_holds_109 (by decide) ?_
      refine c_iV (v := sp_X4_alarmsOn (μ.1 0)) (P := fun z => Same μ z) (a_c3 s2) hw (run_V (As := [.int 3]) (rest := []) (np := 1) hf hw (k_X7_count l E _ 3) ⟨gl_V q98 q99 q100 q2 q101, by decide +kernel⟩ ⟨rfl, rfl, Nat.le_of_ble_eq_true rfl, Nat.le_of_ble_eq_true rfl⟩ (by decide) (c_O E _) rfl rfl hl.1 rfl (Nat.le_of_ble_eq_true rfl) dL_holds_110 ⟨Nat.zero_le _, Nat.zero_le _⟩) (fun μ3 H locs s3 hw => ?_)
      refine lv_iload_n hx hb dL_holds_113 rfl (lv_at hl 2 rfl) ?_
      refine lv_icmp_ne (tgt := 121) hx hb dL_holds_114 (by decide) (fun c => absurd (by rw [← h10]; exact al_end h1 hN (by omega)) c) (fun _ => ?_)
      refine lv_iconst (v := 1) hx hb dL_holds_117 (by decide) ?_
      refine lv_goto (tgt := 122) hx hb dL_holds_118 (by decide) ?_
      exact e_iP hf hr hlocks hw rfl (⟨rfl, s3⟩) dL_holds_122
    | succ f ih =>
      intro k x z μa H locs ls hkf sa h11 h10 hl hw
      have hk : k < N := by omega
      rw [show f + 1 + (6 - N) + 1 = f + (6 - N) + 1 + 1 by omega] at h11 h10
      refine lv_iload hx hb dL_holds_43 (lv_at hl 0 rfl) ?_
      refine lv_aload_n hx hb dL_holds_45 rfl (lv_at hl 4 rfl) ?_
      refine lv_iconst (v := 1) hx hb dL_holds_46 (by decide) ?_
      refine c_iV (v := nI N) (P := fun z => Same μ z) (a_c1 sa h) hw (run_V (As := [.int 1]) (rest := [.int (nI k)]) (np := 1) hf hw (k_X7_count l E _ 1) ⟨gl_V q98 q99 q100 q2 q101, by decide +kernel⟩ ⟨rfl, rfl, Nat.le_of_ble_eq_true rfl, Nat.le_of_ble_eq_true rfl⟩ (by decide) (c_O E _) rfl rfl hl.1 rfl (Nat.le_of_ble_eq_true rfl) dL_holds_47 ⟨Nat.zero_le _, Nat.zero_le _⟩) (fun μ1 H locs s1 hw => ?_)
      refine lv_icmp_ge (tgt := 94) hx hb dL_holds_50 (by decide) (fun c => absurd c (fun q => by have := (nI_leI (a := N) (b := k) (by omega) (by omega)).mp q; omega)) (fun _ => ?_)
      refine lv_iload hx hb dL_holds_53 (lv_at hl 1 rfl) ?_
      refine lv_if_eq (tgt := 94) hx hb dL_holds_55 (by decide) (fun c => absurd c (by decide)) (fun _ => ?_)
      refine lv_iload_n hx hb dL_holds_58 rfl (lv_at hl 3 rfl) ?_
      refine lv_aload_n hx hb dL_holds_59 rfl (lv_at hl 4 rfl) ?_
      refine lv_iload hx hb dL_holds_60 (lv_at hl 0 rfl) ?_
      refine lv_bipush (v := 18) hx hb dL_holds_62 (by decide) ?_
      refine c_iV (v := μ.1 0 (sF k 11)) (P := fun z => Same μ z) (a_s18 s1 h1 hN hk) hw (run_V (As := [.int (nI k), .int 18]) (rest := [.int x]) (np := 2) hf hw (k_X7_sensorOf l E _ (nI k) 18) ⟨gl_V q199 q200 q201 q2 q202, by decide +kernel⟩ ⟨rfl, rfl, Nat.le_of_ble_eq_true rfl, Nat.le_of_ble_eq_true rfl⟩ (by decide) (c_O E _) rfl rfl hl.1 rfl (Nat.le_of_ble_eq_true rfl) dL_holds_64 ⟨Nat.zero_le _, Nat.zero_le _⟩) (fun μ2 H locs s2 hw => ?_)
      refine lv_iadd hx hb dL_holds_67 ?_
      refine lv_istore_n (lv' := [(2, .int (x + (μ.1 0 (sF k 11)))), (5, .int (nI k)), (4, .int 1), (3, .int z), (0, .ref (E.1 231)), (1, .int y)]) hx hb dL_holds_68 rfl hl (by decide) rfl (fun ls hl => ?_)
      refine lv_iload_n hx hb dL_holds_69 rfl (lv_at hl 3 rfl) ?_
      refine lv_aload_n hx hb dL_holds_70 rfl (lv_at hl 4 rfl) ?_
      refine lv_iload hx hb dL_holds_71 (lv_at hl 1 rfl) ?_
      refine lv_bipush (v := 17) hx hb dL_holds_73 (by decide) ?_
      refine c_iV (v := μ.1 0 (sF k 10)) (P := fun z => Same μ z) (a_s17 s2 h1 hN hk) hw (run_V (As := [.int (nI k), .int 17]) (rest := [.int z]) (np := 2) hf hw (k_X7_sensorOf l E _ (nI k) 17) ⟨gl_V q199 q200 q201 q2 q202, by decide +kernel⟩ ⟨rfl, rfl, Nat.le_of_ble_eq_true rfl, Nat.le_of_ble_eq_true rfl⟩ (by decide) (c_O E _) rfl rfl hl.1 rfl (Nat.le_of_ble_eq_true rfl) dL_holds_75 ⟨Nat.zero_le _, Nat.zero_le _⟩) (fun μ3 H locs s3 hw => ?_)
      refine lv_iadd hx hb dL_holds_78 ?_
      refine lv_istore_n (lv' := [(3, .int (z + (μ.1 0 (sF k 10)))), (2, .int (x + (μ.1 0 (sF k 11)))), (5, .int (nI k)), (4, .int 1), (0, .ref (E.1 231)), (1, .int y)]) hx hb dL_holds_79 rfl hl (by decide) rfl (fun ls hl => ?_)
      refine lv_aload_n hx hb dL_holds_80 rfl (lv_at hl 4 rfl) ?_
      refine lv_iload hx hb dL_holds_81 (lv_at hl 2 rfl) ?_
      refine c_i1 hw (run_S (As := [.ref (E.1 231), .int (nI k)]) (rest := []) (np := 2) hf hw (k_L_sensors l E _ (T := T) (N := N) (B := B) (k := k) (by rw [s3.g]; exact h) hk) ⟨gl_S q241 q242 q96 q243, by decide +kernel⟩ ⟨rfl, rfl, Nat.le_of_ble_eq_true rfl, Nat.le_of_ble_eq_true rfl⟩ rfl hl.1 rfl (Nat.le_of_ble_eq_true rfl) dL_holds_83 ⟨Nat.zero_le _, Nat.zero_le _⟩) (fun μ4 H locs s4 hw => ?_)
      have t4 := s3.tr s4
      refine lv_istore (lv' := [(4, .int 1), (3, .int (z + (μ.1 0 (sF k 10)))), (2, .int (x + (μ.1 0 (sF k 11)))), (5, .int (nI k)), (0, .ref (E.1 231)), (1, .int y)]) hx hb dL_holds_86 hl (by decide) rfl (fun ls hl => ?_)
      refine lv_iinc (v := nI (k + 1)) (lv' := [(5, .int (nI (k + 1))), (4, .int 1), (3, .int (z + (μ.1 0 (sF k 10)))), (2, .int (x + (μ.1 0 (sF k 11)))), (0, .ref (E.1 231)), (1, .int y)]) hx hb dL_holds_88 hl (k := 3) rfl (nI_1 _) (by decide) rfl (fun ls hl => ?_)
      refine lv_goto (tgt := 43) hx hb dL_holds_91 (by decide) ?_
      exact ih (k + 1) _ _ _ _ _ _ (by omega) t4 (Eq.trans (ar_go h1 hN hk).symm h11) (Eq.trans (al_go h1 hN hk).symm h10) (lv_sub hl [0, 1, 2, 3, 4, 5] rfl) hw
  have L1 : ∀ (f t : Nat) (μa : Mu) (H : Heap) (locs : List Loc) (ls : Array Slot), t + f = T → Same μ μa → lv_has ls 6 [(5, .int (nI t)), (4, .int 1), (3, .int 0), (2, .int 0), (0, .ref (E.1 231)), (1, .int y)] → Wk E μa s H locs → W p l e ({ frames := 6, cells := 0, slots := 0, locals := 161 }) s m args below meth c H locs 0 0 (MQ below (va_Qi (fun r u => r = 1 ∧ Same μ u) (fun u t => WdU E u t) (inE E)) args s 0 0 (inE E)) (F0 m 10 ls []) := by
    intro f
    induction f with
    | zero =>
      intro t μa H locs ls htf sa hl hw
      refine lv_iload hx hb dL_holds_10 (lv_at hl 0 rfl) ?_
      refine lv_aload_n hx hb dL_holds_12 rfl (lv_at hl 4 rfl) ?_
      refine lv_iconst (v := 0) hx hb dL_holds_13 (by decide) ?_
      refine c_iV (v := nI T) (P := fun z => Same μ z) (a_c0 sa h) hw (run_V (As := [.int 0]) (rest := [.int (nI t)]) (np := 1) hf hw (k_X7_count l E _ 0) ⟨gl_V q98 q99 q100 q2 q101, by decide +kernel⟩ ⟨rfl, rfl, Nat.le_of_ble_eq_true rfl, Nat.le_of_ble_eq_true rfl⟩ (by decide) (c_O E _) rfl rfl hl.1 rfl (Nat.le_of_ble_eq_true rfl) dL_holds_14 ⟨Nat.zero_le _, Nat.zero_le _⟩) (fun μ1 H locs s1 hw => ?_)
      refine lv_icmp_ge (tgt := 40) hx hb dL_holds_17 (by decide) (fun _ => ?_) (fun c => absurd (by rw [show t = T by omega]; exact nI_le (Nat.le_refl _) (by omega)) c)
      refine lv_iconst (v := 0) hx hb dL_holds_40 (by decide) ?_
      refine lv_istore (lv' := [(5, .int 0), (4, .int 1), (3, .int 0), (2, .int 0), (0, .ref (E.1 231)), (1, .int y)]) hx hb dL_holds_41 hl (by decide) rfl (fun ls hl => ?_)
      exact L2 N 0 0 0 _ _ _ _ (by omega) s1 (by rw [show N + (6 - N) + 1 = 7 by omega]; rfl) (by rw [show N + (6 - N) + 1 = 7 by omega]; rfl) (lv_sub hl [0, 1, 2, 3, 4, 5] rfl) hw
    | succ f ih =>
      intro t μa H locs ls htf sa hl hw
      have ht : t < T := by omega
      refine lv_iload hx hb dL_holds_10 (lv_at hl 0 rfl) ?_
      refine lv_aload_n hx hb dL_holds_12 rfl (lv_at hl 4 rfl) ?_
      refine lv_iconst (v := 0) hx hb dL_holds_13 (by decide) ?_
      refine c_iV (v := nI T) (P := fun z => Same μ z) (a_c0 sa h) hw (run_V (As := [.int 0]) (rest := [.int (nI t)]) (np := 1) hf hw (k_X7_count l E _ 0) ⟨gl_V q98 q99 q100 q2 q101, by decide +kernel⟩ ⟨rfl, rfl, Nat.le_of_ble_eq_true rfl, Nat.le_of_ble_eq_true rfl⟩ (by decide) (c_O E _) rfl rfl hl.1 rfl (Nat.le_of_ble_eq_true rfl) dL_holds_14 ⟨Nat.zero_le _, Nat.zero_le _⟩) (fun μ1 H locs s1 hw => ?_)
      refine lv_icmp_ge (tgt := 40) hx hb dL_holds_17 (by decide) (fun c => absurd c (fun q => by have := (nI_leI (a := T) (b := t) (by omega) (by omega)).mp q; omega)) (fun _ => ?_)
      refine lv_iload hx hb dL_holds_20 (lv_at hl 1 rfl) ?_
      refine lv_if_eq (tgt := 40) hx hb dL_holds_22 (by decide) (fun c => absurd c (by decide)) (fun _ => ?_)
      refine lv_aload_n hx hb dL_holds_25 rfl (lv_at hl 4 rfl) ?_
      refine lv_iload hx hb dL_holds_26 (lv_at hl 0 rfl) ?_
      refine lv_iload_n hx hb dL_holds_28 rfl (lv_at hl 5 rfl) ?_
      refine c_i1 hw (run_S (As := [.ref (E.1 231), .int (nI t), .int y]) (rest := []) (np := 3) hf hw (k_L_tables l E _ (T := T) (N := N) (B := B) (t := t) (by rw [s1.g]; exact h) ht hy) ⟨gl_S q153 q154 q96 q155, by decide +kernel⟩ ⟨rfl, rfl, Nat.le_of_ble_eq_true rfl, Nat.le_of_ble_eq_true rfl⟩ rfl hl.1 rfl (Nat.le_of_ble_eq_true rfl) dL_holds_29 ⟨Nat.zero_le _, Nat.zero_le _⟩) (fun μ2 H locs s2 hw => ?_)
      have t2 := s1.tr s2
      refine lv_istore (lv' := [(4, .int 1), (5, .int (nI t)), (3, .int 0), (2, .int 0), (0, .ref (E.1 231)), (1, .int y)]) hx hb dL_holds_32 hl (by decide) rfl (fun ls hl => ?_)
      refine lv_iinc (v := nI (t + 1)) (lv' := [(5, .int (nI (t + 1))), (4, .int 1), (3, .int 0), (2, .int 0), (0, .ref (E.1 231)), (1, .int y)]) hx hb dL_holds_34 hl (k := 1) rfl (nI_1 _) (by decide) rfl (fun ls hl => ?_)
      refine lv_goto (tgt := 10) hx hb dL_holds_37 (by decide) ?_
      exact ih (t + 1) _ _ _ _ (by omega) t2 (lv_sub hl [0, 1, 2, 3, 4, 5] rfl) hw
  refine lv_iconst (v := 0) hx hb dL_holds_0 (by decide) ?_
  refine lv_istore_n (lv' := [(2, .int 0), (0, .ref (E.1 231)), (1, .int y)]) hx hb dL_holds_1 rfl hl (by decide) rfl (fun ls hl => ?_)
  refine lv_iconst (v := 0) hx hb dL_holds_2 (by decide) ?_
  refine lv_istore_n (lv' := [(3, .int 0), (2, .int 0), (0, .ref (E.1 231)), (1, .int y)]) hx hb dL_holds_3 rfl hl (by decide) rfl (fun ls hl => ?_)
  refine lv_iconst (v := 1) hx hb dL_holds_4 (by decide) ?_
  refine lv_istore (lv' := [(4, .int 1), (3, .int 0), (2, .int 0), (0, .ref (E.1 231)), (1, .int y)]) hx hb dL_holds_5 hl (by decide) rfl (fun ls hl => ?_)
  refine lv_iconst (v := 0) hx hb dL_holds_7 (by decide) ?_
  refine lv_istore (lv' := [(5, .int 0), (4, .int 1), (3, .int 0), (2, .int 0), (0, .ref (E.1 231)), (1, .int y)]) hx hb dL_holds_8 hl (by decide) rfl (fun ls hl => ?_)
  exact L1 T 0 _ _ _ _ (by omega) Same.rf (lv_sub hl [0, 1, 2, 3, 4, 5] rfl) hw
