/-! ===== the reference: reading a text ===== -/
def sp_X8_passes (μ : Mu)  (c : Int32) : Int32 × Mu :=
  if (nI ((μ.1 7 1).toNatClampNeg) : Int32) ≤ nI ((μ.1 7 2).toNatClampNeg) then
    (0, pM μ 7 2 (nI ((μ.1 7 2).toNatClampNeg + 0)))
  else
    if (μ.1 12 ((μ.1 7 2).toNatClampNeg) : Int32) = c then
      (1, pM μ 7 2 (nI ((μ.1 7 2).toNatClampNeg + 1)))
    else
      (0, pM μ 7 2 (nI ((μ.1 7 2).toNatClampNeg + 0)))
set_option maxHeartbeats 4000000 in
set_option maxRecDepth 100000 in
theorem k_X8_passes (l : Launch) (E : En) (μ : Mu)  (c : Int32) (hty : ni 61 (μ.1 7 1)) (hat : ni 61 (μ.1 7 2)) : MtI l yX8_passes cX8_passes 3 .boolean ({ frames := 0, cells := 0, slots := 0, locals := 0 }) [.ref (E.1 (232)), .int (c)] E μ (sp_X8_passes μ c) := by
  refine mt_of (by decide +kernel) (Nat.le_of_ble_eq_true rfl) ?_
  intro p e s m args below meth c ls hf hr hlocks hl hw
  have hx := hf.1
  have hb := hf.2.1
  have hl : lv_has ls 3 [(0, .ref (E.1 (232))), (1, .int (c))] := hl
  have hty2 := hty.2
  have hat2 := hat.2
  refine lv_aload_n hx hb dX8_passes_0 rfl (lv_at hl 0 rfl) ?_
  refine g_f hw hf (by decide) (c_R E _) rfl inlX8 7 (by decide) rfl q993 rfl dX8_passes_1 ?_
  have hb1 := hat.2
  refine fold_i (show μ.1 7 2 = nI ((μ.1 7 2).toNatClampNeg) from hat.1) ?_
  refine lv_aload_n hx hb dX8_passes_4 rfl (lv_at hl 0 rfl) ?_
  refine g_f hw hf (by decide) (c_R E _) rfl inlX8 6 (by decide) rfl q896 rfl dX8_passes_5 ?_
  have hb2 := hty.2
  refine fold_i (show μ.1 7 1 = nI ((μ.1 7 1).toNatClampNeg) from hty.1) ?_
  refine lv_icmp_ge (tgt := 28) hx hb dX8_passes_8 (by decide) (fun c3 => ?_) (fun c3 => ?_)
  · have c3n : ((μ.1 7 1).toNatClampNeg) ≤ ((μ.1 7 2).toNatClampNeg) := by have q := (nI_leI (a := ((μ.1 7 1).toNatClampNeg)) (b := ((μ.1 7 2).toNatClampNeg)) (by omega) (by omega)); first | exact q.mp c3 | exact fun z => c3 (q.mpr z)
    refine lv_iconst (v := 0) hx hb dX8_passes_28 (by decide) ?_
    refine lv_istore_n (lv' := [(2, .int 0), (0, .ref (E.1 (232))), (1, .int (c))]) hx hb dX8_passes_29 rfl hl (by decide) rfl (fun ls hl => ?_)
    refine lv_aload_n hx hb dX8_passes_30 rfl (lv_at hl 1 rfl) ?_
    refine lv_dup hx hb dX8_passes_31 rfl ?_
    refine g_f hw hf (by decide) (c_R E _) rfl inlX8 7 (by decide) rfl q993 rfl dX8_passes_32 ?_
    refine fold_i (show μ.1 7 2 = nI ((μ.1 7 2).toNatClampNeg) from hat.1) ?_
    refine lv_iload_n hx hb dX8_passes_35 rfl (lv_at hl 0 rfl) ?_
    refine lv_if_eq (tgt := 43) hx hb dX8_passes_36 (by decide) (fun _ => ?_) (fun c => absurd c (by decide))
    refine lv_iconst (v := 0) hx hb dX8_passes_43 (by decide) ?_
    refine lv_iadd hx hb dX8_passes_44 ?_
    refine fold_i (show nI ((μ.1 7 2).toNatClampNeg) + (0 : Int32) = nI ((μ.1 7 2).toNatClampNeg + 0) from nI_add ((μ.1 7 2).toNatClampNeg) (0)) ?_
    refine p_f hw hf (by decide) (c_R E _) rfl inlX8 tyX8_ok nmX8 7 (by decide) rfl q993 rfl rfl rfl (Nat.le_of_ble_eq_true rfl) (s_R_7 E _ _) dX8_passes_45 (fun H locs hw => ?_)
    refine lv_iload_n hx hb dX8_passes_48 rfl (lv_at hl 0 rfl) ?_
    exact e_i hf hr hlocks hw rfl ((if_pos c3).trans rfl) dX8_passes_49
  · have c3n : ¬ ((μ.1 7 1).toNatClampNeg) ≤ ((μ.1 7 2).toNatClampNeg) := by have q := (nI_leI (a := ((μ.1 7 1).toNatClampNeg)) (b := ((μ.1 7 2).toNatClampNeg)) (by omega) (by omega)); first | exact q.mp c3 | exact fun z => c3 (q.mpr z)
    refine lv_aload_n hx hb dX8_passes_11 rfl (lv_at hl 0 rfl) ?_
    refine g_f hw hf (by decide) (c_R E _) rfl inlX8 5 (by decide) rfl q94 rfl dX8_passes_12 ?_
    refine lv_aload_n hx hb dX8_passes_15 rfl (lv_at hl 0 rfl) ?_
    refine g_f hw hf (by decide) (c_R E _) rfl inlX8 7 (by decide) rfl q993 rfl dX8_passes_16 ?_
    refine fold_i (show μ.1 7 2 = nI ((μ.1 7 2).toNatClampNeg) from hat.1) ?_
    refine g_c hw hf (by decide) (c_Rt E _) (vp_in_nI (show (μ.1 7 2).toNatClampNeg < 60 from (by omega)) (by decide)) (tr_at (y := (μ.1 7 2).toNatClampNeg) (by omega) (nI_clamp (Nat.lt_trans (show (μ.1 7 2).toNatClampNeg < 60 from (by omega)) (by decide)))) dX8_passes_19 ?_
    refine lv_iload_n hx hb dX8_passes_20 rfl (lv_at hl 1 rfl) ?_
    refine lv_icmp_ne (tgt := 28) hx hb dX8_passes_21 (by decide) (fun c5 => ?_) (fun c5 => ?_)
    · refine lv_iconst (v := 0) hx hb dX8_passes_28 (by decide) ?_
      refine lv_istore_n (lv' := [(2, .int 0), (0, .ref (E.1 (232))), (1, .int (c))]) hx hb dX8_passes_29 rfl hl (by decide) rfl (fun ls hl => ?_)
      refine lv_aload_n hx hb dX8_passes_30 rfl (lv_at hl 1 rfl) ?_
      refine lv_dup hx hb dX8_passes_31 rfl ?_
      refine g_f hw hf (by decide) (c_R E _) rfl inlX8 7 (by decide) rfl q993 rfl dX8_passes_32 ?_
      refine fold_i (show μ.1 7 2 = nI ((μ.1 7 2).toNatClampNeg) from hat.1) ?_
      refine lv_iload_n hx hb dX8_passes_35 rfl (lv_at hl 0 rfl) ?_
      refine lv_if_eq (tgt := 43) hx hb dX8_passes_36 (by decide) (fun _ => ?_) (fun c => absurd c (by decide))
      refine lv_iconst (v := 0) hx hb dX8_passes_43 (by decide) ?_
      refine lv_iadd hx hb dX8_passes_44 ?_
      refine fold_i (show nI ((μ.1 7 2).toNatClampNeg) + (0 : Int32) = nI ((μ.1 7 2).toNatClampNeg + 0) from nI_add ((μ.1 7 2).toNatClampNeg) (0)) ?_
      refine p_f hw hf (by decide) (c_R E _) rfl inlX8 tyX8_ok nmX8 7 (by decide) rfl q993 rfl rfl rfl (Nat.le_of_ble_eq_true rfl) (s_R_7 E _ _) dX8_passes_45 (fun H locs hw => ?_)
      refine lv_iload_n hx hb dX8_passes_48 rfl (lv_at hl 0 rfl) ?_
      exact e_i hf hr hlocks hw rfl ((if_neg c3).trans ((if_neg c5).trans rfl)) dX8_passes_49
    · refine lv_iconst (v := 1) hx hb dX8_passes_24 (by decide) ?_
      refine lv_goto (tgt := 29) hx hb dX8_passes_25 (by decide) ?_
      refine lv_istore_n (lv' := [(2, .int 1), (0, .ref (E.1 (232))), (1, .int (c))]) hx hb dX8_passes_29 rfl hl (by decide) rfl (fun ls hl => ?_)
      refine lv_aload_n hx hb dX8_passes_30 rfl (lv_at hl 1 rfl) ?_
      refine lv_dup hx hb dX8_passes_31 rfl ?_
      refine g_f hw hf (by decide) (c_R E _) rfl inlX8 7 (by decide) rfl q993 rfl dX8_passes_32 ?_
      refine fold_i (show μ.1 7 2 = nI ((μ.1 7 2).toNatClampNeg) from hat.1) ?_
      refine lv_iload_n hx hb dX8_passes_35 rfl (lv_at hl 0 rfl) ?_
      refine lv_if_eq (tgt := 43) hx hb dX8_passes_36 (by decide) (fun c => absurd c (by decide)) (fun _ => ?_)
      refine lv_iconst (v := 1) hx hb dX8_passes_39 (by decide) ?_
      refine lv_goto (tgt := 44) hx hb dX8_passes_40 (by decide) ?_
      refine lv_iadd hx hb dX8_passes_44 ?_
      refine fold_i (show nI ((μ.1 7 2).toNatClampNeg) + (1 : Int32) = nI ((μ.1 7 2).toNatClampNeg + 1) from nI_add ((μ.1 7 2).toNatClampNeg) (1)) ?_
      refine p_f hw hf (by decide) (c_R E _) rfl inlX8 tyX8_ok nmX8 7 (by decide) rfl q993 rfl rfl rfl (Nat.le_of_ble_eq_true rfl) (s_R_7 E _ _) dX8_passes_45 (fun H locs hw => ?_)
      refine lv_iload_n hx hb dX8_passes_48 rfl (lv_at hl 0 rfl) ?_
      exact e_i hf hr hlocks hw rfl ((if_neg c3).trans ((if_pos c5).trans rfl)) dX8_passes_49
theorem ni_nI {N k : Nat} (h : k < N) (hN : N < 2 ^ 31) : ni N (nI k) := by
  unfold ni
  rw [nI_clamp (by omega)]
  exact ⟨rfl, h⟩
theorem at_up {m : Mu} {c k j : Nat} {v x : Int32} (hc : c ≠ 7) : (pM (pM m c k v) 7 j x).1 7 j = x := by simp [pM, upM]
theorem ty_up {m : Mu} {c k : Nat} {v x : Int32} (hc : c ≠ 7) : (pM (pM m c k v) 7 2 x).1 7 1 = m.1 7 1 := by simp [pM, upM, Ne.symm hc]
theorem ty_up1 {m : Mu} {c k j : Nat} {v : Int32} (hc : c ≠ 7) : (pM m c k v).1 7 j = m.1 7 j := by simp [pM, upM, Ne.symm hc]
def lp_X8_takes_12 (μ : Mu)  (k : Nat) : Nat → Mu → Int32 × Mu
  | 0, μ1 => (0, μ1)
  | f + 1, μ1 =>
    if (nI ((μ1.1 7 1).toNatClampNeg) : Int32) ≤ nI ((μ1.1 7 2).toNatClampNeg) then
      if (nI ((μ1.1 7 2).toNatClampNeg) : Int32) ≤ nI ((μ.1 7 2).toNatClampNeg) then
        (0, μ1)
      else
        (1, μ1)
    else
      if (nI ((μ.1 7 2).toNatClampNeg + 6) : Int32) ≤ nI ((μ1.1 7 2).toNatClampNeg) then
        if (nI ((μ1.1 7 2).toNatClampNeg) : Int32) ≤ nI ((μ.1 7 2).toNatClampNeg) then
          (0, μ1)
        else
          (1, μ1)
      else
        if (48 : Int32) ≤ ((μ1).1 12 ((μ1.1 7 2).toNatClampNeg)) ∧ ((μ1).1 12 ((μ1.1 7 2).toNatClampNeg)) ≤ (57 : Int32) then
          lp_X8_takes_12 μ k f (pM (pM μ1 13 k (((10 * ((μ1).1 13 k)) + ((μ1).1 12 ((μ1.1 7 2).toNatClampNeg))) - 48)) 7 2 (nI ((μ1.1 7 2).toNatClampNeg + 1)))
        else
          if (nI ((μ1.1 7 2).toNatClampNeg) : Int32) ≤ nI ((μ.1 7 2).toNatClampNeg) then
            (0, μ1)
          else
            (1, μ1)
def sp_X8_takes (μ : Mu)  (k : Nat) : Int32 × Mu :=
  lp_X8_takes_12 μ k 7 (pM μ 13 k (0 : Int32))
set_option maxHeartbeats 4000000 in
set_option maxRecDepth 100000 in
theorem k_X8_takes (l : Launch) (E : En) (μ : Mu)  (k : Nat) (hty : ni 61 (μ.1 7 1)) (hat : ni 61 (μ.1 7 2)) (hk2 : k < 2) : MtI l yX8_takes cX8_takes 3 .boolean ({ frames := 1, cells := 0, slots := 0, locals := 22 }) [.ref (E.1 (232)), .int (nI k)] E μ (sp_X8_takes μ k) := by
  refine mt_of (by decide +kernel) (Nat.le_of_ble_eq_true rfl) ?_
  intro p e s m args below meth c ls hf hr hlocks hl hw
  have hx := hf.1
  have hb := hf.2.1
  have hl : lv_has ls 3 [(0, .ref (E.1 (232))), (1, .int (nI k))] := hl
  have hty2 := hty.2
  have hat2 := hat.2
  refine lv_aload_n hx hb dX8_takes_0 rfl (lv_at hl 0 rfl) ?_
  refine g_f hw hf (by decide) (c_R E _) rfl inlX8 7 (by decide) rfl q993 rfl dX8_takes_1 ?_
  have hb1 := hat.2
  refine fold_i (show μ.1 7 2 = nI ((μ.1 7 2).toNatClampNeg) from hat.1) ?_
  refine lv_istore_n (lv' := [(2, .int (nI ((μ.1 7 2).toNatClampNeg))), (0, .ref (E.1 (232))), (1, .int (nI k))]) hx hb dX8_takes_4 rfl hl (by decide) rfl (fun ls hl => ?_)
  refine lv_aload_n hx hb dX8_takes_5 rfl (lv_at hl 1 rfl) ?_
  refine g_f hw hf (by decide) (c_R E _) rfl inlX8 9 (by decide) rfl q95 rfl dX8_takes_6 ?_
  refine lv_iload_n hx hb dX8_takes_9 rfl (lv_at hl 2 rfl) ?_
  refine lv_iconst (v := 0) hx hb dX8_takes_10 (by decide) ?_
  refine p_a hw hf (by decide) (c_Rg E _) (vp_in_nI (show k < 2 from (by omega)) (by decide)) (by rw [show (nI k).toNatClampNeg = k from (nI_clamp (Nat.lt_trans (show k < 2 from (by omega)) (by decide)))]; exact (s_Rg E _ (by omega) _)) dX8_takes_11 (fun H locs hw => ?_)
  have key_12 : ∀ (f : Nat)  (μ1 : Mu), (μ1.1 7 2).toNatClampNeg + f = (μ.1 7 2).toNatClampNeg + 7 → (μ1.1 7 2).toNatClampNeg ≤ (μ.1 7 2).toNatClampNeg + 6 → ni 61 (μ1.1 7 2) → ni 61 (μ1.1 7 1) → sp_X8_takes μ k = lp_X8_takes_12 μ k f μ1 → ∀ (ls : Array Slot) (H : Heap) (locs : List Loc), lv_has ls 3 [(0, .ref (E.1 (232))), (1, .int (nI k)), (2, .int (nI ((μ.1 7 2).toNatClampNeg)))] → Wk E μ1 s H locs → W p l e ({ frames := 1, cells := 0, slots := 0, locals := 22 }) s m args below meth c H locs 0 0 (MQ below (va_Qi (fun r u => r = ((sp_X8_takes μ k)).1 ∧ u = ((sp_X8_takes μ k)).2) (fun u t => WdU E u t) (inE E)) args s 0 0 (inE E)) (F0 m 12 ls []) := by
    intro f
    induction f with
    | zero => intro μ1 h1 h2 h4 h5 hq ls H locs hl hw; exfalso; omega
    | succ f ih =>
      intro μ1 h1 h2 h4 h5 hq ls H locs hl hw
      have h42 := h4.2
      have h52 := h5.2
      refine lv_aload_n hx hb dX8_takes_12 rfl (lv_at hl 0 rfl) ?_
      refine g_f hw hf (by decide) (c_R E _) rfl inlX8 7 (by decide) rfl q993 rfl dX8_takes_13 ?_
      have hb2 := h4.2
      refine fold_i (show (μ1).1 7 2 = nI ((μ1.1 7 2).toNatClampNeg) from h4.1) ?_
      refine lv_aload_n hx hb dX8_takes_16 rfl (lv_at hl 0 rfl) ?_
      refine g_f hw hf (by decide) (c_R E _) rfl inlX8 6 (by decide) rfl q896 rfl dX8_takes_17 ?_
      have hb3 := h5.2
      refine fold_i (show (μ1).1 7 1 = nI ((μ1.1 7 1).toNatClampNeg) from h5.1) ?_
      refine lv_icmp_ge (tgt := 94) hx hb dX8_takes_20 (by decide) (fun c4 => ?_) (fun c4 => ?_)
      · have c4n : ((μ1.1 7 1).toNatClampNeg) ≤ ((μ1.1 7 2).toNatClampNeg) := by have q := (nI_leI (a := ((μ1.1 7 1).toNatClampNeg)) (b := ((μ1.1 7 2).toNatClampNeg)) (by omega) (by omega)); first | exact q.mp c4 | exact fun z => c4 (q.mpr z)
        refine lv_aload_n hx hb dX8_takes_94 rfl (lv_at hl 0 rfl) ?_
        refine g_f hw hf (by decide) (c_R E _) rfl inlX8 7 (by decide) rfl q993 rfl dX8_takes_95 ?_
        refine fold_i (show (μ1).1 7 2 = nI ((μ1.1 7 2).toNatClampNeg) from h4.1) ?_
        refine lv_iload_n hx hb dX8_takes_98 rfl (lv_at hl 2 rfl) ?_
        refine lv_icmp_le (tgt := 106) hx hb dX8_takes_99 (by decide) (fun c5 => ?_) (fun c5 => ?_)
        · have c5n : ((μ1.1 7 2).toNatClampNeg) ≤ ((μ.1 7 2).toNatClampNeg) := by have q := (nI_leI (a := ((μ1.1 7 2).toNatClampNeg)) (b := ((μ.1 7 2).toNatClampNeg)) (by omega) (by omega)); first | exact q.mp c5 | exact fun z => c5 (q.mpr z)
          refine lv_iconst (v := 0) hx hb dX8_takes_106 (by decide) ?_
          exact e_i hf hr hlocks hw rfl ((hq).trans ((if_pos c4).trans ((if_pos c5).trans rfl))) dX8_takes_107
        · have c5n : ¬ ((μ1.1 7 2).toNatClampNeg) ≤ ((μ.1 7 2).toNatClampNeg) := by have q := (nI_leI (a := ((μ1.1 7 2).toNatClampNeg)) (b := ((μ.1 7 2).toNatClampNeg)) (by omega) (by omega)); first | exact q.mp c5 | exact fun z => c5 (q.mpr z)
          refine lv_iconst (v := 1) hx hb dX8_takes_102 (by decide) ?_
          refine lv_goto (tgt := 107) hx hb dX8_takes_103 (by decide) ?_
          exact e_i hf hr hlocks hw rfl ((hq).trans ((if_pos c4).trans ((if_neg c5).trans rfl))) dX8_takes_107
      · have c4n : ¬ ((μ1.1 7 1).toNatClampNeg) ≤ ((μ1.1 7 2).toNatClampNeg) := by have q := (nI_leI (a := ((μ1.1 7 1).toNatClampNeg)) (b := ((μ1.1 7 2).toNatClampNeg)) (by omega) (by omega)); first | exact q.mp c4 | exact fun z => c4 (q.mpr z)
        refine lv_aload_n hx hb dX8_takes_23 rfl (lv_at hl 0 rfl) ?_
        refine g_f hw hf (by decide) (c_R E _) rfl inlX8 7 (by decide) rfl q993 rfl dX8_takes_24 ?_
        refine fold_i (show (μ1).1 7 2 = nI ((μ1.1 7 2).toNatClampNeg) from h4.1) ?_
        refine lv_iload_n hx hb dX8_takes_27 rfl (lv_at hl 2 rfl) ?_
        refine lv_bipush (v := 6) hx hb dX8_takes_28 (by decide) ?_
        refine lv_iadd hx hb dX8_takes_30 ?_
        refine fold_i (show nI ((μ.1 7 2).toNatClampNeg) + (6 : Int32) = nI ((μ.1 7 2).toNatClampNeg + 6) from nI_add ((μ.1 7 2).toNatClampNeg) (6)) ?_
        refine lv_icmp_ge (tgt := 94) hx hb dX8_takes_31 (by decide) (fun c6 => ?_) (fun c6 => ?_)
        · have c6n : ((μ.1 7 2).toNatClampNeg + 6) ≤ ((μ1.1 7 2).toNatClampNeg) := by have q := (nI_leI (a := ((μ.1 7 2).toNatClampNeg + 6)) (b := ((μ1.1 7 2).toNatClampNeg)) (by omega) (by omega)); first | exact q.mp c6 | exact fun z => c6 (q.mpr z)
          refine lv_aload_n hx hb dX8_takes_94 rfl (lv_at hl 0 rfl) ?_
          refine g_f hw hf (by decide) (c_R E _) rfl inlX8 7 (by decide) rfl q993 rfl dX8_takes_95 ?_
          refine fold_i (show (μ1).1 7 2 = nI ((μ1.1 7 2).toNatClampNeg) from h4.1) ?_
          refine lv_iload_n hx hb dX8_takes_98 rfl (lv_at hl 2 rfl) ?_
          refine lv_icmp_le (tgt := 106) hx hb dX8_takes_99 (by decide) (fun c7 => ?_) (fun c7 => ?_)
          · have c7n : ((μ1.1 7 2).toNatClampNeg) ≤ ((μ.1 7 2).toNatClampNeg) := by have q := (nI_leI (a := ((μ1.1 7 2).toNatClampNeg)) (b := ((μ.1 7 2).toNatClampNeg)) (by omega) (by omega)); first | exact q.mp c7 | exact fun z => c7 (q.mpr z)
            refine lv_iconst (v := 0) hx hb dX8_takes_106 (by decide) ?_
            exact e_i hf hr hlocks hw rfl ((hq).trans ((if_neg c4).trans ((if_pos c6).trans ((if_pos c7).trans rfl)))) dX8_takes_107
          · have c7n : ¬ ((μ1.1 7 2).toNatClampNeg) ≤ ((μ.1 7 2).toNatClampNeg) := by have q := (nI_leI (a := ((μ1.1 7 2).toNatClampNeg)) (b := ((μ.1 7 2).toNatClampNeg)) (by omega) (by omega)); first | exact q.mp c7 | exact fun z => c7 (q.mpr z)
            refine lv_iconst (v := 1) hx hb dX8_takes_102 (by decide) ?_
            refine lv_goto (tgt := 107) hx hb dX8_takes_103 (by decide) ?_
            exact e_i hf hr hlocks hw rfl ((hq).trans ((if_neg c4).trans ((if_pos c6).trans ((if_neg c7).trans rfl)))) dX8_takes_107
        · have c6n : ¬ ((μ.1 7 2).toNatClampNeg + 6) ≤ ((μ1.1 7 2).toNatClampNeg) := by have q := (nI_leI (a := ((μ.1 7 2).toNatClampNeg + 6)) (b := ((μ1.1 7 2).toNatClampNeg)) (by omega) (by omega)); first | exact q.mp c6 | exact fun z => c6 (q.mpr z)
          refine lv_aload_n hx hb dX8_takes_34 rfl (lv_at hl 0 rfl) ?_
          refine g_f hw hf (by decide) (c_R E _) rfl inlX8 5 (by decide) rfl q94 rfl dX8_takes_35 ?_
          refine lv_aload_n hx hb dX8_takes_38 rfl (lv_at hl 0 rfl) ?_
          refine g_f hw hf (by decide) (c_R E _) rfl inlX8 7 (by decide) rfl q993 rfl dX8_takes_39 ?_
          refine fold_i (show (μ1).1 7 2 = nI ((μ1.1 7 2).toNatClampNeg) from h4.1) ?_
          refine g_c hw hf (by decide) (c_Rt E _) (vp_in_nI (show (μ1.1 7 2).toNatClampNeg < 60 from (by omega)) (by decide)) (tr_at (y := (μ1.1 7 2).toNatClampNeg) (by omega) (nI_clamp (Nat.lt_trans (show (μ1.1 7 2).toNatClampNeg < 60 from (by omega)) (by decide)))) dX8_takes_42 ?_
          refine lv_bipush (v := 48) hx hb dX8_takes_43 (by decide) ?_
          refine lv_bipush (v := 57) hx hb dX8_takes_45 (by decide) ?_
          refine c_iR hw (run_S (As := [.int ((μ1).1 12 ((μ1.1 7 2).toNatClampNeg)), .int 48, .int 57]) (rest := []) (np := 3) hf hw (kn_X8_in l E _  ((μ1).1 12 ((μ1.1 7 2).toNatClampNeg)) (48 : Int32) (57 : Int32)  ) ⟨gl_S q207 q208 q5 q209, by decide +kernel⟩ ⟨rfl, rfl, Nat.le_of_ble_eq_true rfl, Nat.le_of_ble_eq_true rfl⟩ rfl hl.1 rfl (Nat.le_of_ble_eq_true rfl) dX8_takes_47 ⟨Nat.zero_le _, Nat.zero_le _⟩) (fun H locs hw => ?_)
          refine lv_if_eq (tgt := 94) hx hb dX8_takes_50 (by decide) (fun c8 => ?_) (fun c8 => ?_)
          · replace c8 := (bz_0 _).mp c8
            refine lv_aload_n hx hb dX8_takes_94 rfl (lv_at hl 0 rfl) ?_
            refine g_f hw hf (by decide) (c_R E _) rfl inlX8 7 (by decide) rfl q993 rfl dX8_takes_95 ?_
            refine fold_i (show (μ1).1 7 2 = nI ((μ1.1 7 2).toNatClampNeg) from h4.1) ?_
            refine lv_iload_n hx hb dX8_takes_98 rfl (lv_at hl 2 rfl) ?_
            refine lv_icmp_le (tgt := 106) hx hb dX8_takes_99 (by decide) (fun c9 => ?_) (fun c9 => ?_)
            · have c9n : ((μ1.1 7 2).toNatClampNeg) ≤ ((μ.1 7 2).toNatClampNeg) := by have q := (nI_leI (a := ((μ1.1 7 2).toNatClampNeg)) (b := ((μ.1 7 2).toNatClampNeg)) (by omega) (by omega)); first | exact q.mp c9 | exact fun z => c9 (q.mpr z)
              refine lv_iconst (v := 0) hx hb dX8_takes_106 (by decide) ?_
              exact e_i hf hr hlocks hw rfl ((hq).trans ((if_neg c4).trans ((if_neg c6).trans ((if_neg c8).trans ((if_pos c9).trans rfl))))) dX8_takes_107
            · have c9n : ¬ ((μ1.1 7 2).toNatClampNeg) ≤ ((μ.1 7 2).toNatClampNeg) := by have q := (nI_leI (a := ((μ1.1 7 2).toNatClampNeg)) (b := ((μ.1 7 2).toNatClampNeg)) (by omega) (by omega)); first | exact q.mp c9 | exact fun z => c9 (q.mpr z)
              refine lv_iconst (v := 1) hx hb dX8_takes_102 (by decide) ?_
              refine lv_goto (tgt := 107) hx hb dX8_takes_103 (by decide) ?_
              exact e_i hf hr hlocks hw rfl ((hq).trans ((if_neg c4).trans ((if_neg c6).trans ((if_neg c8).trans ((if_neg c9).trans rfl))))) dX8_takes_107
          · replace c8 := (bz_n0 _).mp c8
            refine lv_aload_n hx hb dX8_takes_53 rfl (lv_at hl 0 rfl) ?_
            refine g_f hw hf (by decide) (c_R E _) rfl inlX8 9 (by decide) rfl q95 rfl dX8_takes_54 ?_
            refine lv_iload_n hx hb dX8_takes_57 rfl (lv_at hl 1 rfl) ?_
            refine lv_bipush (v := 10) hx hb dX8_takes_58 (by decide) ?_
            refine lv_aload_n hx hb dX8_takes_60 rfl (lv_at hl 0 rfl) ?_
            refine g_f hw hf (by decide) (c_R E _) rfl inlX8 9 (by decide) rfl q95 rfl dX8_takes_61 ?_
            refine lv_iload_n hx hb dX8_takes_64 rfl (lv_at hl 1 rfl) ?_
            refine g_a hw hf (by decide) (c_Rg E _) (vp_in_nI (show k < 2 from (by omega)) (by decide)) (tr_at (y := k) (by omega) (nI_clamp (Nat.lt_trans (show k < 2 from (by omega)) (by decide)))) dX8_takes_65 ?_
            refine lv_imul hx hb dX8_takes_66 ?_
            refine lv_aload_n hx hb dX8_takes_67 rfl (lv_at hl 0 rfl) ?_
            refine g_f hw hf (by decide) (c_R E _) rfl inlX8 5 (by decide) rfl q94 rfl dX8_takes_68 ?_
            refine lv_aload_n hx hb dX8_takes_71 rfl (lv_at hl 0 rfl) ?_
            refine g_f hw hf (by decide) (c_R E _) rfl inlX8 7 (by decide) rfl q993 rfl dX8_takes_72 ?_
            refine fold_i (show (μ1).1 7 2 = nI ((μ1.1 7 2).toNatClampNeg) from h4.1) ?_
            refine g_c hw hf (by decide) (c_Rt E _) (vp_in_nI (show (μ1.1 7 2).toNatClampNeg < 60 from (by omega)) (by decide)) (tr_at (y := (μ1.1 7 2).toNatClampNeg) (by omega) (nI_clamp (Nat.lt_trans (show (μ1.1 7 2).toNatClampNeg < 60 from (by omega)) (by decide)))) dX8_takes_75 ?_
            refine lv_iadd hx hb dX8_takes_76 ?_
            refine lv_bipush (v := 48) hx hb dX8_takes_77 (by decide) ?_
            refine lv_isub hx hb dX8_takes_79 ?_
            refine p_a hw hf (by decide) (c_Rg E _) (vp_in_nI (show k < 2 from (by omega)) (by decide)) (by rw [show (nI k).toNatClampNeg = k from (nI_clamp (Nat.lt_trans (show k < 2 from (by omega)) (by decide)))]; exact (s_Rg E _ (by omega) _)) dX8_takes_80 (fun H locs hw => ?_)
            refine lv_aload_n hx hb dX8_takes_81 rfl (lv_at hl 0 rfl) ?_
            refine lv_dup hx hb dX8_takes_82 rfl ?_
            refine g_f hw hf (by decide) (c_R E _) rfl inlX8 7 (by decide) rfl q993 (congrArg (fun z => some (Value.int z)) (show _ = (μ1).1 7 2 from (by first | (simp [pM, pJ, upM, upJ, sF, tN, tD, tR, tk_M, tk_K, tk_0, tk_1, tk_2, tk_3, tk_4, tk_5, tk_6, tk_7, tk_8, tk_9, tk_10, tk_o, ms_0_0, ms_0_1, ms_0_2, ms_0_3, ms_0_4, ms_0_5, ms_0_6, ms_0_7, ms_0_8, ms_0_9, ms_0_10, ms_1_0, ms_1_1, ms_1_2, ms_1_3, ms_1_4, ms_1_5, ms_1_6, ms_1_7, ms_1_8, ms_1_9, ms_1_10, ms_w, ms_r, ms_d, ms_M, ms_6, ms_K, pC_row]; done) | (simp (disch := (first | omega | (simp only [tN, tD, tR, sF]; omega))) only [pM, pJ, upM_s, upM_k, upM_c, upJ_s, upJ_k, upJ_c, tk_M, tk_K, tk_0, tk_1, tk_2, tk_3, tk_4, tk_5, tk_6, tk_7, tk_8, tk_9, tk_10, tk_o, ms_0_0, ms_0_1, ms_0_2, ms_0_3, ms_0_4, ms_0_5, ms_0_6, ms_0_7, ms_0_8, ms_0_9, ms_0_10, ms_1_0, ms_1_1, ms_1_2, ms_1_3, ms_1_4, ms_1_5, ms_1_6, ms_1_7, ms_1_8, ms_1_9, ms_1_10, ms_w, ms_r, ms_d, ms_M, ms_6, ms_K, pC_row])))) dX8_takes_83 ?_
            refine fold_i (show (μ1).1 7 2 = nI ((μ1.1 7 2).toNatClampNeg) from h4.1) ?_
            refine lv_iconst (v := 1) hx hb dX8_takes_86 (by decide) ?_
            refine lv_iadd hx hb dX8_takes_87 ?_
            refine fold_i (show nI ((μ1.1 7 2).toNatClampNeg) + (1 : Int32) = nI ((μ1.1 7 2).toNatClampNeg + 1) from nI_add ((μ1.1 7 2).toNatClampNeg) (1)) ?_
            refine p_f hw hf (by decide) (c_R E _) rfl inlX8 tyX8_ok nmX8 7 (by decide) rfl q993 rfl rfl rfl (Nat.le_of_ble_eq_true rfl) (s_R_7 E _ _) dX8_takes_88 (fun H locs hw => ?_)
            refine lv_goto (tgt := 12) hx hb dX8_takes_91 (by decide) ?_
            exact ih (pM (pM μ1 13 k (((10 * ((μ1).1 13 k)) + ((μ1).1 12 ((μ1.1 7 2).toNatClampNeg))) - 48)) 7 2 (nI ((μ1.1 7 2).toNatClampNeg + 1))) (by rw [at_up (by decide), nI_clamp (by omega)]; omega) (by rw [at_up (by decide), nI_clamp (by omega)]; omega) (by rw [at_up (by decide)]; exact ni_nI (by omega) (by decide)) (by rw [ty_up (by decide)]; exact h5) (((hq).trans ((if_neg c4).trans ((if_neg c6).trans ((if_pos c8).trans rfl))))) _ _ _ (lv_sub hl [0, 1, 2] rfl) hw
  exact key_12 7 (pM μ 13 k (0 : Int32)) (by rw [ty_up1 (by decide)]) (by rw [ty_up1 (by decide)]; omega) (by rw [ty_up1 (by decide)]; exact hat) (by rw [ty_up1 (by decide)]; exact hty) (rfl) _ _ _ (lv_sub hl [1, 2, 0] rfl) hw
