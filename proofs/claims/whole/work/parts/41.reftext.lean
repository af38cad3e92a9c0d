/-! ===== the reference: reading a text ===== -/
def sp_X8_passes (μ : Mu)  (ch : Int32) : Int32 × Mu :=
  if (nI ((μ.1 7 1).toNatClampNeg) : Int32) ≤ nI ((μ.1 7 2).toNatClampNeg) then
    (0, pM μ 7 2 (nI ((μ.1 7 2).toNatClampNeg + 0)))
  else
    if (μ.1 12 ((μ.1 7 2).toNatClampNeg) : Int32) = ch then
      (1, pM μ 7 2 (nI ((μ.1 7 2).toNatClampNeg + 1)))
    else
      (0, pM μ 7 2 (nI ((μ.1 7 2).toNatClampNeg + 0)))
set_option maxHeartbeats 4000000 in
set_option maxRecDepth 100000 in
theorem k_X8_passes (l : Launch) (E : En) (μ : Mu)  (ch : Int32) (hty : ni 61 (μ.1 7 1)) (hat : ni 61 (μ.1 7 2)) : MtI l yX8_passes cX8_passes 3 .boolean ({ frames := 0, cells := 0, slots := 0, locals := 0 }) [.ref (E.1 (232)), .int (ch)] E μ (sp_X8_passes μ ch) := by
  refine mt_of (by decide +kernel) (Nat.le_of_ble_eq_true rfl) ?_
  intro p e s m args below meth c ls hf hr hlocks hl hw
  have hx := hf.1
  have hb := hf.2.1
  have hl : lv_has ls 3 [(0, .ref (E.1 (232))), (1, .int (ch))] := hl
  have hty2 := hty.2
  have hat2 := hat.2
  refine lv_aload_n hx hb dX8_passes_0 rfl (lv_at hl 0 rfl) ?_
  refine g_f hw hf (by decide) (c_R E _) rfl inlX8 7 (by decide) rfl q993 rfl dX8_passes_1 ?_
  have hb1 := hat.2
  refine fold_i (show μ.1 7 2 = nI ((μ.1 7 2).toNatClampNeg) from hat.1) ?_
  refine lv_aload_n hx hb dX8_passes_4 rfl (lv_at hl 0 rfl) ?_
  refine g_f hw hf (by decide) (c_R E _) rfl inlX8 6 (by decide) rfl q896 rfl dX8_passes_5 ?_
  have hb2 := hty.2
  refine fold_i (show μ.1 7 1 = nI ((μ.1 7 1).toNatClampNeg) from hty.1) ?_
  refine lv_icmp_ge (tgt := 28) hx hb dX8_passes_8 (by decide) (fun c3 => ?_) (fun c3 => ?_)
  · have c3n : ((μ.1 7 1).toNatClampNeg) ≤ ((μ.1 7 2).toNatClampNeg) := by have q := (nI_leI (a := ((μ.1 7 1).toNatClampNeg)) (b := ((μ.1 7 2).toNatClampNeg)) (by omega) (by omega)); first | exact q.mp c3 | exact fun z => c3 (q.mpr z)
    refine lv_iconst (v := 0) hx hb dX8_passes_28 (by decide) ?_
    refine lv_istore_n (lv' := [(2, .int 0), (0, .ref (E.1 (232))), (1, .int (ch))]) hx hb dX8_passes_29 rfl hl (by decide) rfl (fun ls hl => ?_)
    refine lv_aload_n hx hb dX8_passes_30 rfl (lv_at hl 1 rfl) ?_
    refine lv_dup hx hb dX8_passes_31 rfl ?_
    refine g_f hw hf (by decide) (c_R E _) rfl inlX8 7 (by decide) rfl q993 rfl dX8_passes_32 ?_
    refine fold_i (show μ.1 7 2 = nI ((μ.1 7 2).toNatClampNeg) from hat.1) ?_
    refine lv_iload_n hx hb dX8_passes_35 rfl (lv_at hl 0 rfl) ?_
    refine lv_if_eq (tgt := 43) hx hb dX8_passes_36 (by decide) (fun _ => ?_) (fun c => absurd c (by decide))
    refine lv_iconst (v := 0) hx hb dX8_passes_43 (by decide) ?_
    refine lv_iadd hx hb dX8_passes_44 ?_
    refine fold_i (show nI ((μ.1 7 2).toNatClampNeg) + (0 : Int32) = nI ((μ.1 7 2).toNatClampNeg + 0) from nI_add ((μ.1 7 2).toNatClampNeg) (0)) ?_
    refine p_f hw hf (by decide) (c_R E _) rfl inlX8 tyX8_ok nmX8 7 (by decide) rfl q993 rfl rfl rfl (Nat.le_of_ble_eq_true rfl) (s_R_7 E _ _) dX8_passes_45 (fun H locs hw => ?_)
    refine lv_iload_n hx hb dX8_passes_48 rfl (lv_at hl 0 rfl) ?_
    exact e_i hf hr hlocks hw rfl ((if_pos c3).trans rfl) dX8_passes_49
  · have c3n : ¬ ((μ.1 7 1).toNatClampNeg) ≤ ((μ.1 7 2).toNatClampNeg) := by have q := (nI_leI (a := ((μ.1 7 1).toNatClampNeg)) (b := ((μ.1 7 2).toNatClampNeg)) (by omega) (by omega)); first | exact q.mp c3 | exact fun z => c3 (q.mpr z)
    refine lv_aload_n hx hb dX8_passes_11 rfl (lv_at hl 0 rfl) ?_
    refine g_f hw hf (by decide) (c_R E _) rfl inlX8 5 (by decide) rfl q94 rfl dX8_passes_12 ?_
    refine lv_aload_n hx hb dX8_passes_15 rfl (lv_at hl 0 rfl) ?_
    refine g_f hw hf (by decide) (c_R E _) rfl inlX8 7 (by decide) rfl q993 rfl dX8_passes_16 ?_
    refine fold_i (show μ.1 7 2 = nI ((μ.1 7 2).toNatClampNeg) from hat.1) ?_
    refine g_c hw hf (by decide) (c_Rt E _) (vp_in_nI (show (μ.1 7 2).toNatClampNeg < 60 from (by omega)) (by decide)) (tr_at (y := (μ.1 7 2).toNatClampNeg) (by omega) (nI_clamp (Nat.lt_trans (show (μ.1 7 2).toNatClampNeg < 60 from (by omega)) (by decide)))) dX8_passes_19 ?_
    refine lv_iload_n hx hb dX8_passes_20 rfl (lv_at hl 1 rfl) ?_
    refine lv_icmp_ne (tgt := 28) hx hb dX8_passes_21 (by decide) (fun c5 => ?_) (fun c5 => ?_)
    · refine lv_iconst (v := 0) hx hb dX8_passes_28 (by decide) ?_
      refine lv_istore_n (lv' := [(2, .int 0), (0, .ref (E.1 (232))), (1, .int (ch))]) hx hb dX8_passes_29 rfl hl (by decide) rfl (fun ls hl => ?_)
      refine lv_aload_n hx hb dX8_passes_30 rfl (lv_at hl 1 rfl) ?_
      refine lv_dup hx hb dX8_passes_31 rfl ?_
      refine g_f hw hf (by decide) (c_R E _) rfl inlX8 7 (by decide) rfl q993 rfl dX8_passes_32 ?_
      refine fold_i (show μ.1 7 2 = nI ((μ.1 7 2).toNatClampNeg) from hat.1) ?_
      refine lv_iload_n hx hb dX8_passes_35 rfl (lv_at hl 0 rfl) ?_
      refine lv_if_eq (tgt := 43) hx hb dX8_passes_36 (by decide) (fun _ => ?_) (fun c => absurd c (by decide))
      refine lv_iconst (v := 0) hx hb dX8_passes_43 (by decide) ?_
      refine lv_iadd hx hb dX8_passes_44 ?_
      refine fold_i (show nI ((μ.1 7 2).toNatClampNeg) + (0 : Int32) = nI ((μ.1 7 2).toNatClampNeg + 0) from nI_add ((μ.1 7 2).toNatClampNeg) (0)) ?_
      refine p_f hw hf (by decide) (c_R E _) rfl inlX8 tyX8_ok nmX8 7 (by decide) rfl q993 rfl rfl rfl (Nat.le_of_ble_eq_true rfl) (s_R_7 E _ _) dX8_passes_45 (fun H locs hw => ?_)
      refine lv_iload_n hx hb dX8_passes_48 rfl (lv_at hl 0 rfl) ?_
      exact e_i hf hr hlocks hw rfl ((if_neg c3).trans ((if_neg c5).trans rfl)) dX8_passes_49
    · refine lv_iconst (v := 1) hx hb dX8_passes_24 (by decide) ?_
      refine lv_goto (tgt := 29) hx hb dX8_passes_25 (by decide) ?_
      refine lv_istore_n (lv' := [(2, .int 1), (0, .ref (E.1 (232))), (1, .int (ch))]) hx hb dX8_passes_29 rfl hl (by decide) rfl (fun ls hl => ?_)
      refine lv_aload_n hx hb dX8_passes_30 rfl (lv_at hl 1 rfl) ?_
      refine lv_dup hx hb dX8_passes_31 rfl ?_
      refine g_f hw hf (by decide) (c_R E _) rfl inlX8 7 (by decide) rfl q993 rfl dX8_passes_32 ?_
      refine fold_i (show μ.1 7 2 = nI ((μ.1 7 2).toNatClampNeg) from hat.1) ?_
      refine lv_iload_n hx hb dX8_passes_35 rfl (lv_at hl 0 rfl) ?_
      refine lv_if_eq (tgt := 43) hx hb dX8_passes_36 (by decide) (fun c => absurd c (by decide)) (fun _ => ?_)
      refine lv_iconst (v := 1) hx hb dX8_passes_39 (by decide) ?_
      refine lv_goto (tgt := 44) hx hb dX8_passes_40 (by decide) ?_
      refine lv_iadd hx hb dX8_passes_44 ?_
      refine fold_i (show nI ((μ.1 7 2).toNatClampNeg) + (1 : Int32) = nI ((μ.1 7 2).toNatClampNeg + 1) from nI_add ((μ.1 7 2).toNatClampNeg) (1)) ?_
      refine p_f hw hf (by decide) (c_R E _) rfl inlX8 tyX8_ok nmX8 7 (by decide) rfl q993 rfl rfl rfl (Nat.le_of_ble_eq_true rfl) (s_R_7 E _ _) dX8_passes_45 (fun H locs hw => ?_)
      refine lv_iload_n hx hb dX8_passes_48 rfl (lv_at hl 0 rfl) ?_
      exact e_i hf hr hlocks hw rfl ((if_neg c3).trans ((if_pos c5).trans rfl)) dX8_passes_49
theorem ni_nI {N k : Nat} (h : k < N) (hN : N < 2 ^ 31) : ni N (nI k) := by
  unfold ni
  rw [nI_clamp (by omega)]
  exact ⟨rfl, h⟩
theorem at_up {m : Mu} {c k j : Nat} {v x : Int32} (hc : c ≠ 7) : (pM (pM m c k v) 7 j x).1 7 j = x := by simp [pM, upM]
theorem ty_up {m : Mu} {c k : Nat} {v x : Int32} (hc : c ≠ 7) : (pM (pM m c k v) 7 2 x).1 7 1 = m.1 7 1 := by simp [pM, upM, Ne.symm hc]
theorem ty_up1 {m : Mu} {c k j : Nat} {v : Int32} (hc : c ≠ 7) : (pM m c k v).1 7 j = m.1 7 j := by simp [pM, upM, Ne.symm hc]
def lp_X8_takes_12 (μ : Mu)  (k : Nat) : Nat → Mu → Int32 × Mu
  | 0, μ1 => (0, μ1)
  | f + 1, μ1 =>
    if (nI ((μ1.1 7 1).toNatClampNeg) : Int32) ≤ nI ((μ1.1 7 2).toNatClampNeg) then
      if (nI ((μ1.1 7 2).toNatClampNeg) : Int32) ≤ nI ((μ.1 7 2).toNatClampNeg) then
        (0, μ1)
      else
        (1, μ1)
    else
      if (nI ((μ.1 7 2).toNatClampNeg + 6) : Int32) ≤ nI ((μ1.1 7 2).toNatClampNeg) then
        if (nI ((μ1.1 7 2).toNatClampNeg) : Int32) ≤ nI ((μ.1 7 2).toNatClampNeg) then
          (0, μ1)
        else
          (1, μ1)
      else
        if (48 : Int32) ≤ ((μ1).1 12 ((μ1.1 7 2).toNatClampNeg)) ∧ ((μ1).1 12 ((μ1.1 7 2).toNatClampNeg)) ≤ (57 : Int32) then
          lp_X8_takes_12 μ k f (pM (pM μ1 13 k (((10 * ((μ1).1 13 k)) + ((μ1).1 12 ((μ1.1 7 2).toNatClampNeg))) - 48)) 7 2 (nI ((μ1.1 7 2).toNatClampNeg + 1)))
        else
          if (nI ((μ1.1 7 2).toNatClampNeg) : Int32) ≤ nI ((μ.1 7 2).toNatClampNeg) then
            (0, μ1)
          else
            (1, μ1)
def sp_X8_takes (μ : Mu)  (k : Nat) : Int32 × Mu :=
  lp_X8_takes_12 μ k 7 (pM μ 13 k (0 : Int32))
set_option maxHeartbeats 4000000 in
set_option maxRecDepth 100000 in
theorem k_X8_takes (l : Launch) (E : En) (μ : Mu)  (k : Nat) (hty : ni 61 (μ.1 7 1)) (hat : ni 61 (μ.1 7 2)) (hk2 : k < 2) : MtI l yX8_takes cX8_takes 3 .boolean ({ frames := 1, cells := 0, slots := 0, locals := 22 }) [.ref (E.1 (232)), .int (nI k)] E μ (sp_X8_takes μ k) := by
  refine mt_of (by decide +kernel) (Nat.le_of_ble_eq_true rfl) ?_
  intro p e s m args below meth c ls hf hr hlocks hl hw
  have hx := hf.1
  have hb := hf.2.1
  have hl : lv_has ls 3 [(0, .ref (E.1 (232))), (1, .int (nI k))] := hl
  have hty2 := hty.2
  have hat2 := hat.2
  refine lv_aload_n hx hb dX8_takes_0 rfl (lv_at hl 0 rfl) ?_
  refine g_f hw hf (by decide) (c_R E _) rfl inlX8 7 (by decide) rfl q993 rfl dX8_takes_1 ?_
  have hb1 := hat.2
  refine fold_i (show μ.1 7 2 = nI ((μ.1 7 2).toNatClampNeg) from hat.1) ?_
  refine lv_istore_n (lv' := [(2, .int (nI ((μ.1 7 2).toNatClampNeg))), (0, .ref (E.1 (232))), (1, .int (nI k))]) hx hb dX8_takes_4 rfl hl (by decide) rfl (fun ls hl => ?_)
  refine lv_aload_n hx hb dX8_takes_5 rfl (lv_at hl 1 rfl) ?_
  refine g_f hw hf (by decide) (c_R E _) rfl inlX8 9 (by decide) rfl q95 rfl dX8_takes_6 ?_
  refine lv_iload_n hx hb dX8_takes_9 rfl (lv_at hl 2 rfl) ?_
  refine lv_iconst (v := 0) hx hb dX8_takes_10 (by decide) ?_
  refine p_a hw hf (by decide) (c_Rg E _) (vp_in_nI (show k < 2 from (by omega)) (by decide)) (by rw [show (nI k).toNatClampNeg = k from (nI_clamp (Nat.lt_trans (show k < 2 from (by omega)) (by decide)))]; exact (s_Rg E _ (by omega) _)) dX8_takes_11 (fun H locs hw => ?_)
  have key_12 : ∀ (f : Nat)  (μ1 : Mu), (μ1.1 7 2).toNatClampNeg + f = (μ.1 7 2).toNatClampNeg + 7 → (μ1.1 7 2).toNatClampNeg ≤ (μ.1 7 2).toNatClampNeg + 6 → ni 61 (μ1.1 7 2) → ni 61 (μ1.1 7 1) → sp_X8_takes μ k = lp_X8_takes_12 μ k f μ1 → ∀ (ls : Array Slot) (H : Heap) (locs : List Loc), lv_has ls 3 [(0, .ref (E.1 (232))), (1, .int (nI k)), (2, .int (nI ((μ.1 7 2).toNatClampNeg)))] → Wk E μ1 s H locs → W p l e ({ frames := 1, cells := 0, slots := 0, locals := 22 }) s m args below meth c H locs 0 0 (MQ below (va_Qi (fun r u => r = ((sp_X8_takes μ k)).1 ∧ u = ((sp_X8_takes μ k)).2) (fun u t => WdU E u t) (inE E)) args s 0 0 (inE E)) (F0 m 12 ls []) := by
    intro f
    induction f with
    | zero => intro μ1 h1 h2 h4 h5 hq ls H locs hl hw; exfalso; omega
    | succ f ih =>
      intro μ1 h1 h2 h4 h5 hq ls H locs hl hw
      have h42 := h4.2
      have h52 := h5.2
      refine lv_aload_n hx hb dX8_takes_12 rfl (lv_at hl 0 rfl) ?_
      refine g_f hw hf (by decide) (c_R E _) rfl inlX8 7 (by decide) rfl q993 rfl dX8_takes_13 ?_
      have hb2 := h4.2
      refine fold_i (show (μ1).1 7 2 = nI ((μ1.1 7 2).toNatClampNeg) from h4.1) ?_
      refine lv_aload_n hx hb dX8_takes_16 rfl (lv_at hl 0 rfl) ?_
      refine g_f hw hf (by decide) (c_R E _) rfl inlX8 6 (by decide) rfl q896 rfl dX8_takes_17 ?_
      have hb3 := h5.2
      refine fold_i (show (μ1).1 7 1 = nI ((μ1.1 7 1).toNatClampNeg) from h5.1) ?_
      refine lv_icmp_ge (tgt := 94) hx hb dX8_takes_20 (by decide) (fun c4 => ?_) (fun c4 => ?_)
      · have c4n : ((μ1.1 7 1).toNatClampNeg) ≤ ((μ1.1 7 2).toNatClampNeg) := by have q := (nI_leI (a := ((μ1.1 7 1).toNatClampNeg)) (b := ((μ1.1 7 2).toNatClampNeg)) (by omega) (by omega)); first | exact q.mp c4 | exact fun z => c4 (q.mpr z)
        refine lv_aload_n hx hb dX8_takes_94 rfl (lv_at hl 0 rfl) ?_
        refine g_f hw hf (by decide) (c_R E _) rfl inlX8 7 (by decide) rfl q993 rfl dX8_takes_95 ?_
        refine fold_i (show (μ1).1 7 2 = nI ((μ1.1 7 2).toNatClampNeg) from h4.1) ?_
        refine lv_iload_n hx hb dX8_takes_98 rfl (lv_at hl 2 rfl) ?_
        refine lv_icmp_le (tgt := 106) hx hb dX8_takes_99 (by decide) (fun c5 => ?_) (fun c5 => ?_)
        · have c5n : ((μ1.1 7 2).toNatClampNeg) ≤ ((μ.1 7 2).toNatClampNeg) := by have q := (nI_leI (a := ((μ1.1 7 2).toNatClampNeg)) (b := ((μ.1 7 2).toNatClampNeg)) (by omega) (by omega)); first | exact q.mp c5 | exact fun z => c5 (q.mpr z)
          refine lv_iconst (v := 0) hx hb dX8_takes_106 (by decide) ?_
          exact e_i hf hr hlocks hw rfl ((hq).trans ((if_pos c4).trans ((if_pos c5).trans rfl))) dX8_takes_107
        · have c5n : ¬ ((μ1.1 7 2).toNatClampNeg) ≤ ((μ.1 7 2).toNatClampNeg) := by have q := (nI_leI (a := ((μ1.1 7 2).toNatClampNeg)) (b := ((μ.1 7 2).toNatClampNeg)) (by omega) (by omega)); first | exact q.mp c5 | exact fun z => c5 (q.mpr z)
          refine lv_iconst (v := 1) hx hb dX8_takes_102 (by decide) ?_
          refine lv_goto (tgt := 107) hx hb dX8_takes_103 (by decide) ?_
          exact e_i hf hr hlocks hw rfl ((hq).trans ((if_pos c4).trans ((if_neg c5).trans rfl))) dX8_takes_107
      · have c4n : ¬ ((μ1.1 7 1).toNatClampNeg) ≤ ((μ1.1 7 2).toNatClampNeg) := by have q := (nI_leI (a := ((μ1.1 7 1).toNatClampNeg)) (b := ((μ1.1 7 2).toNatClampNeg)) (by omega) (by omega)); first | exact q.mp c4 | exact fun z => c4 (q.mpr z)
        refine lv_aload_n hx hb dX8_takes_23 rfl (lv_at hl 0 rfl) ?_
        refine g_f hw hf (by decide) (c_R E _) rfl inlX8 7 (by decide) rfl q993 rfl dX8_takes_24 ?_
        refine fold_i (show (μ1).1 7 2 = nI ((μ1.1 7 2).toNatClampNeg) from h4.1) ?_
        refine lv_iload_n hx hb dX8_takes_27 rfl (lv_at hl 2 rfl) ?_
        refine lv_bipush (v := 6) hx hb dX8_takes_28 (by decide) ?_
        refine lv_iadd hx hb dX8_takes_30 ?_
        refine fold_i (show nI ((μ.1 7 2).toNatClampNeg) + (6 : Int32) = nI ((μ.1 7 2).toNatClampNeg + 6) from nI_add ((μ.1 7 2).toNatClampNeg) (6)) ?_
        refine lv_icmp_ge (tgt := 94) hx hb dX8_takes_31 (by decide) (fun c6 => ?_) (fun c6 => ?_)
        · have c6n : ((μ.1 7 2).toNatClampNeg + 6) ≤ ((μ1.1 7 2).toNatClampNeg) := by have q := (nI_leI (a := ((μ.1 7 2).toNatClampNeg + 6)) (b := ((μ1.1 7 2).toNatClampNeg)) (by omega) (by omega)); first | exact q.mp c6 | exact fun z => c6 (q.mpr z)
          refine lv_aload_n hx hb dX8_takes_94 rfl (lv_at hl 0 rfl) ?_
          refine g_f hw hf (by decide) (c_R E _) rfl inlX8 7 (by decide) rfl q993 rfl dX8_takes_95 ?_
          refine fold_i (show (μ1).1 7 2 = nI ((μ1.1 7 2).toNatClampNeg) from h4.1) ?_
          refine lv_iload_n hx hb dX8_takes_98 rfl (lv_at hl 2 rfl) ?_
          refine lv_icmp_le (tgt := 106) hx hb dX8_takes_99 (by decide) (fun c7 => ?_) (fun c7 => ?_)
          · have c7n : ((μ1.1 7 2).toNatClampNeg) ≤ ((μ.1 7 2).toNatClampNeg) := by have q := (nI_leI (a := ((μ1.1 7 2).toNatClampNeg)) (b := ((μ.1 7 2).toNatClampNeg)) (by omega) (by omega)); first | exact q.mp c7 | exact fun z => c7 (q.mpr z)
            refine lv_iconst (v := 0) hx hb dX8_takes_106 (by decide) ?_
            exact e_i hf hr hlocks hw rfl ((hq).trans ((if_neg c4).trans ((if_pos c6).trans ((if_pos c7).trans rfl)))) dX8_takes_107
          · have c7n : ¬ ((μ1.1 7 2).toNatClampNeg) ≤ ((μ.1 7 2).toNatClampNeg) := by have q := (nI_leI (a := ((μ1.1 7 2).toNatClampNeg)) (b := ((μ.1 7 2).toNatClampNeg)) (by omega) (by omega)); first | exact q.mp c7 | exact fun z => c7 (q.mpr z)
            refine lv_iconst (v := 1) hx hb dX8_takes_102 (by decide) ?_
            refine lv_goto (tgt := 107) hx hb dX8_takes_103 (by decide) ?_
            exact e_i hf hr hlocks hw rfl ((hq).trans ((if_neg c4).trans ((if_pos c6).trans ((if_neg c7).trans rfl)))) dX8_takes_107
        · have c6n : ¬ ((μ.1 7 2).toNatClampNeg + 6) ≤ ((μ1.1 7 2).toNatClampNeg) := by have q := (nI_leI (a := ((μ.1 7 2).toNatClampNeg + 6)) (b := ((μ1.1 7 2).toNatClampNeg)) (by omega) (by omega)); first | exact q.mp c6 | exact fun z => c6 (q.mpr z)
          refine lv_aload_n hx hb dX8_takes_34 rfl (lv_at hl 0 rfl) ?_
          refine g_f hw hf (by decide) (c_R E _) rfl inlX8 5 (by decide) rfl q94 rfl dX8_takes_35 ?_
          refine lv_aload_n hx hb dX8_takes_38 rfl (lv_at hl 0 rfl) ?_
          refine g_f hw hf (by decide) (c_R E _) rfl inlX8 7 (by decide) rfl q993 rfl dX8_takes_39 ?_
          refine fold_i (show (μ1).1 7 2 = nI ((μ1.1 7 2).toNatClampNeg) from h4.1) ?_
          refine g_c hw hf (by decide) (c_Rt E _) (vp_in_nI (show (μ1.1 7 2).toNatClampNeg < 60 from (by omega)) (by decide)) (tr_at (y := (μ1.1 7 2).toNatClampNeg) (by omega) (nI_clamp (Nat.lt_trans (show (μ1.1 7 2).toNatClampNeg < 60 from (by omega)) (by decide)))) dX8_takes_42 ?_
          refine lv_bipush (v := 48) hx hb dX8_takes_43 (by decide) ?_
          refine lv_bipush (v := 57) hx hb dX8_takes_45 (by decide) ?_
          refine c_iR hw (run_S (As := [.int ((μ1).1 12 ((μ1.1 7 2).toNatClampNeg)), .int 48, .int 57]) (rest := []) (np := 3) hf hw (kn_X8_in l E _  ((μ1).1 12 ((μ1.1 7 2).toNatClampNeg)) (48 : Int32) (57 : Int32)  ) ⟨gl_S q207 q208 q5 q209, by decide +kernel⟩ ⟨rfl, rfl, Nat.le_of_ble_eq_true rfl, Nat.le_of_ble_eq_true rfl⟩ rfl hl.1 rfl (Nat.le_of_ble_eq_true rfl) dX8_takes_47 ⟨Nat.zero_le _, Nat.zero_le _⟩) (fun H locs hw => ?_)
          refine lv_if_eq (tgt := 94) hx hb dX8_takes_50 (by decide) (fun c8 => ?_) (fun c8 => ?_)
          · replace c8 := (bz_0 _).mp c8
            refine lv_aload_n hx hb dX8_takes_94 rfl (lv_at hl 0 rfl) ?_
            refine g_f hw hf (by decide) (c_R E _) rfl inlX8 7 (by decide) rfl q993 rfl dX8_takes_95 ?_
            refine fold_i (show (μ1).1 7 2 = nI ((μ1.1 7 2).toNatClampNeg) from h4.1) ?_
            refine lv_iload_n hx hb dX8_takes_98 rfl (lv_at hl 2 rfl) ?_
            refine lv_icmp_le (tgt := 106) hx hb dX8_takes_99 (by decide) (fun c9 => ?_) (fun c9 => ?_)
            · have c9n : ((μ1.1 7 2).toNatClampNeg) ≤ ((μ.1 7 2).toNatClampNeg) := by have q := (nI_leI (a := ((μ1.1 7 2).toNatClampNeg)) (b := ((μ.1 7 2).toNatClampNeg)) (by omega) (by omega)); first | exact q.mp c9 | exact fun z => c9 (q.mpr z)
              refine lv_iconst (v := 0) hx hb dX8_takes_106 (by decide) ?_
              exact e_i hf hr hlocks hw rfl ((hq).trans ((if_neg c4).trans ((if_neg c6).trans ((if_neg c8).trans ((if_pos c9).trans rfl))))) dX8_takes_107
            · have c9n : ¬ ((μ1.1 7 2).toNatClampNeg) ≤ ((μ.1 7 2).toNatClampNeg) := by have q := (nI_leI (a := ((μ1.1 7 2).toNatClampNeg)) (b := ((μ.1 7 2).toNatClampNeg)) (by omega) (by omega)); first | exact q.mp c9 | exact fun z => c9 (q.mpr z)
              refine lv_iconst (v := 1) hx hb dX8_takes_102 (by decide) ?_
              refine lv_goto (tgt := 107) hx hb dX8_takes_103 (by decide) ?_
              exact e_i hf hr hlocks hw rfl ((hq).trans ((if_neg c4).trans ((if_neg c6).trans ((if_neg c8).trans ((if_neg c9).trans rfl))))) dX8_takes_107
          · replace c8 := (bz_n0 _).mp c8
            refine lv_aload_n hx hb dX8_takes_53 rfl (lv_at hl 0 rfl) ?_
            refine g_f hw hf (by decide) (c_R E _) rfl inlX8 9 (by decide) rfl q95 rfl dX8_takes_54 ?_
            refine lv_iload_n hx hb dX8_takes_57 rfl (lv_at hl 1 rfl) ?_
            refine lv_bipush (v := 10) hx hb dX8_takes_58 (by decide) ?_
            refine lv_aload_n hx hb dX8_takes_60 rfl (lv_at hl 0 rfl) ?_
            refine g_f hw hf (by decide) (c_R E _) rfl inlX8 9 (by decide) rfl q95 rfl dX8_takes_61 ?_
            refine lv_iload_n hx hb dX8_takes_64 rfl (lv_at hl 1 rfl) ?_
            refine g_a hw hf (by decide) (c_Rg E _) (vp_in_nI (show k < 2 from (by omega)) (by decide)) (tr_at (y := k) (by omega) (nI_clamp (Nat.lt_trans (show k < 2 from (by omega)) (by decide)))) dX8_takes_65 ?_
            refine lv_imul hx hb dX8_takes_66 ?_
            refine lv_aload_n hx hb dX8_takes_67 rfl (lv_at hl 0 rfl) ?_
            refine g_f hw hf (by decide) (c_R E _) rfl inlX8 5 (by decide) rfl q94 rfl dX8_takes_68 ?_
            refine lv_aload_n hx hb dX8_takes_71 rfl (lv_at hl 0 rfl) ?_
            refine g_f hw hf (by decide) (c_R E _) rfl inlX8 7 (by decide) rfl q993 rfl dX8_takes_72 ?_
            refine fold_i (show (μ1).1 7 2 = nI ((μ1.1 7 2).toNatClampNeg) from h4.1) ?_
            refine g_c hw hf (by decide) (c_Rt E _) (vp_in_nI (show (μ1.1 7 2).toNatClampNeg < 60 from (by omega)) (by decide)) (tr_at (y := (μ1.1 7 2).toNatClampNeg) (by omega) (nI_clamp (Nat.lt_trans (show (μ1.1 7 2).toNatClampNeg < 60 from (by omega)) (by decide)))) dX8_takes_75 ?_
            refine lv_iadd hx hb dX8_takes_76 ?_
            refine lv_bipush (v := 48) hx hb dX8_takes_77 (by decide) ?_
            refine lv_isub hx hb dX8_takes_79 ?_
            refine p_a hw hf (by decide) (c_Rg E _) (vp_in_nI (show k < 2 from (by omega)) (by decide)) (by rw [show (nI k).toNatClampNeg = k from (nI_clamp (Nat.lt_trans (show k < 2 from (by omega)) (by decide)))]; exact (s_Rg E _ (by omega) _)) dX8_takes_80 (fun H locs hw => ?_)
            refine lv_aload_n hx hb dX8_takes_81 rfl (lv_at hl 0 rfl) ?_
            refine lv_dup hx hb dX8_takes_82 rfl ?_
            refine g_f hw hf (by decide) (c_R E _) rfl inlX8 7 (by decide) rfl q993 (congrArg (fun z => some (Value.int z)) (show _ = (μ1).1 7 2 from (by first | (simp [pM, pJ, upM, upJ, sF, tN, tD, tR, tk_M, tk_K, tk_0, tk_1, tk_2, tk_3, tk_4, tk_5, tk_6, tk_7, tk_8, tk_9, tk_10, tk_o, ms_0_0, ms_0_1, ms_0_2, ms_0_3, ms_0_4, ms_0_5, ms_0_6, ms_0_7, ms_0_8, ms_0_9, ms_0_10, ms_1_0, ms_1_1, ms_1_2, ms_1_3, ms_1_4, ms_1_5, ms_1_6, ms_1_7, ms_1_8, ms_1_9, ms_1_10, ms_w, ms_r, ms_d, ms_M, ms_6, ms_K, pC_row]; done) | (simp (disch := (first | omega | (simp only [tN, tD, tR, sF]; omega))) only [pM, pJ, upM_s, upM_k, upM_c, upJ_s, upJ_k, upJ_c, tk_M, tk_K, tk_0, tk_1, tk_2, tk_3, tk_4, tk_5, tk_6, tk_7, tk_8, tk_9, tk_10, tk_o, ms_0_0, ms_0_1, ms_0_2, ms_0_3, ms_0_4, ms_0_5, ms_0_6, ms_0_7, ms_0_8, ms_0_9, ms_0_10, ms_1_0, ms_1_1, ms_1_2, ms_1_3, ms_1_4, ms_1_5, ms_1_6, ms_1_7, ms_1_8, ms_1_9, ms_1_10, ms_w, ms_r, ms_d, ms_M, ms_6, ms_K, pC_row])))) dX8_takes_83 ?_
            refine fold_i (show (μ1).1 7 2 = nI ((μ1.1 7 2).toNatClampNeg) from h4.1) ?_
            refine lv_iconst (v := 1) hx hb dX8_takes_86 (by decide) ?_
            refine lv_iadd hx hb dX8_takes_87 ?_
            refine fold_i (show nI ((μ1.1 7 2).toNatClampNeg) + (1 : Int32) = nI ((μ1.1 7 2).toNatClampNeg + 1) from nI_add ((μ1.1 7 2).toNatClampNeg) (1)) ?_
            refine p_f hw hf (by decide) (c_R E _) rfl inlX8 tyX8_ok nmX8 7 (by decide) rfl q993 rfl rfl rfl (Nat.le_of_ble_eq_true rfl) (s_R_7 E _ _) dX8_takes_88 (fun H locs hw => ?_)
            refine lv_goto (tgt := 12) hx hb dX8_takes_91 (by decide) ?_
            exact ih (pM (pM μ1 13 k (((10 * ((μ1).1 13 k)) + ((μ1).1 12 ((μ1.1 7 2).toNatClampNeg))) - 48)) 7 2 (nI ((μ1.1 7 2).toNatClampNeg + 1))) (by rw [at_up (by decide), nI_clamp (by omega)]; omega) (by rw [at_up (by decide), nI_clamp (by omega)]; omega) (by rw [at_up (by decide)]; exact ni_nI (by omega) (by decide)) (by rw [ty_up (by decide)]; exact h5) (((hq).trans ((if_neg c4).trans ((if_neg c6).trans ((if_pos c8).trans rfl))))) _ _ _ (lv_sub hl [0, 1, 2] rfl) hw
  exact key_12 7 (pM μ 13 k (0 : Int32)) (by rw [ty_up1 (by decide)]) (by rw [ty_up1 (by decide)]; omega) (by rw [ty_up1 (by decide)]; exact hat) (by rw [ty_up1 (by decide)]; exact hty) (rfl) _ _ _ (lv_sub hl [1, 2, 0] rfl) hw
/-- how far the text is read, how long it is -/
def AT (m : Mu) : Prop := ni 61 (m.1 7 1) ∧ ni 61 (m.1 7 2)
theorem at_72 {m : Mu} {k : Nat} (h : AT m) (hk : k < 61) : AT (pM m 7 2 (nI k)) := by
  refine ⟨?_, ?_⟩
  · have e : (pM m 7 2 (nI k)).1 7 1 = m.1 7 1 := by simp [pM, upM]
    rw [e]; exact h.1
  · have e : (pM m 7 2 (nI k)).1 7 2 = nI k := by simp [pM, upM]
    rw [e]; exact ni_nI hk (by decide)
theorem at_pM {m : Mu} {c k : Nat} {v : Int32} (hc : c ≠ 7) (h : AT m) : AT (pM m c k v) := by
  refine ⟨?_, ?_⟩
  · rw [ty_up1 hc]; exact h.1
  · rw [ty_up1 hc]; exact h.2
theorem at_pC {m : Mu} {c b c' b' n : Nat} (hc : c ≠ 7) (h : AT m) : AT (pC m c b c' b' n) := by
  unfold AT at h ⊢
  rw [pC_row (Ne.symm hc)]; exact h
theorem atp_X8_passes (μ : Mu) (ch : Int32) (h : AT μ) : AT (sp_X8_passes μ ch).2 := by
  have a1 := h.1.2
  have a2 := h.2.2
  unfold sp_X8_passes
  by_cases c : (nI ((μ.1 7 1).toNatClampNeg) : Int32) ≤ nI ((μ.1 7 2).toNatClampNeg)
  · rw [if_pos c]; exact at_72 h (by omega)
  · rw [if_neg c]
    rw [nI_leI (by omega) (by omega)] at c
    split <;> exact at_72 h (by omega)
theorem atp_lp_X8_takes (μ : Mu) (k : Nat) : ∀ (f : Nat) (μ1 : Mu), AT μ1 → AT (lp_X8_takes_12 μ k f μ1).2 := by
  intro f
  induction f with
  | zero => intro μ1 h; exact h
  | succ f ih =>
    intro μ1 h
    have a1 := h.1.2
    have a2 := h.2.2
    unfold lp_X8_takes_12
    by_cases c : (nI ((μ1.1 7 1).toNatClampNeg) : Int32) ≤ nI ((μ1.1 7 2).toNatClampNeg)
    · rw [if_pos c]; split <;> exact h
    · rw [if_neg c]
      rw [nI_leI (by omega) (by omega)] at c
      repeat' split
      all_goals (first | exact h | exact ih _ (at_72 (at_pM (by decide) h) (by omega)))
theorem atp_X8_takes (μ : Mu) (k : Nat) (h : AT μ) : AT (sp_X8_takes μ k).2 := atp_lp_X8_takes _ _ _ _ (at_pM (by decide) h)
def sp_X8_readsForm (μ : Mu)  (ch : Int32) : Int32 × Mu :=
  if (ch : Int32) = 115 then
    if ((sp_X8_passes μ  (59 : Int32)).1 : Int32) = 0 then
      (0, (sp_X8_passes μ  (59 : Int32)).2)
    else
      (1, (sp_X8_passes μ  (59 : Int32)).2)
  else
    if (ch : Int32) = 114 then
      if ((sp_X8_takes μ  0).1 : Int32) = 0 then
        (0, (sp_X8_takes μ  0).2)
      else
        if ((sp_X8_passes ((sp_X8_takes μ  0).2)  (59 : Int32)).1 : Int32) = 0 then
          (0, (sp_X8_passes ((sp_X8_takes μ  0).2)  (59 : Int32)).2)
        else
          (1, (sp_X8_passes ((sp_X8_takes μ  0).2)  (59 : Int32)).2)
    else
      if (ch : Int32) = 116 then
        if ((sp_X8_takes μ  0).1 : Int32) = 0 then
          (0, (sp_X8_takes μ  0).2)
        else
          if ((sp_X8_passes ((sp_X8_takes μ  0).2)  (44 : Int32)).1 : Int32) = 0 then
            (0, pM ((sp_X8_passes ((sp_X8_takes μ  0).2)  (44 : Int32)).2) 13 1 (((sp_X8_passes ((sp_X8_takes μ  0).2)  (44 : Int32)).2).1 13 1))
          else
            if ((sp_X8_passes ((sp_X8_passes ((sp_X8_takes μ  0).2)  (44 : Int32)).2)  (45 : Int32)).1 : Int32) = 0 then
              if ((sp_X8_takes ((sp_X8_passes ((sp_X8_passes ((sp_X8_takes μ  0).2)  (44 : Int32)).2)  (45 : Int32)).2)  1).1 : Int32) = 0 then
                (0, pM ((sp_X8_takes ((sp_X8_passes ((sp_X8_passes ((sp_X8_takes μ  0).2)  (44 : Int32)).2)  (45 : Int32)).2)  1).2) 13 1 (((sp_X8_takes ((sp_X8_passes ((sp_X8_passes ((sp_X8_takes μ  0).2)  (44 : Int32)).2)  (45 : Int32)).2)  1).2).1 13 1))
              else
                if ((sp_X8_passes (pM ((sp_X8_takes ((sp_X8_passes ((sp_X8_passes ((sp_X8_takes μ  0).2)  (44 : Int32)).2)  (45 : Int32)).2)  1).2) 13 1 (((sp_X8_takes ((sp_X8_passes ((sp_X8_passes ((sp_X8_takes μ  0).2)  (44 : Int32)).2)  (45 : Int32)).2)  1).2).1 13 1))  (59 : Int32)).1 : Int32) = 0 then
                  (0, (sp_X8_passes (pM ((sp_X8_takes ((sp_X8_passes ((sp_X8_passes ((sp_X8_takes μ  0).2)  (44 : Int32)).2)  (45 : Int32)).2)  1).2) 13 1 (((sp_X8_takes ((sp_X8_passes ((sp_X8_passes ((sp_X8_takes μ  0).2)  (44 : Int32)).2)  (45 : Int32)).2)  1).2).1 13 1))  (59 : Int32)).2)
                else
                  (1, (sp_X8_passes (pM ((sp_X8_takes ((sp_X8_passes ((sp_X8_passes ((sp_X8_takes μ  0).2)  (44 : Int32)).2)  (45 : Int32)).2)  1).2) 13 1 (((sp_X8_takes ((sp_X8_passes ((sp_X8_passes ((sp_X8_takes μ  0).2)  (44 : Int32)).2)  (45 : Int32)).2)  1).2).1 13 1))  (59 : Int32)).2)
            else
              if ((sp_X8_takes ((sp_X8_passes ((sp_X8_passes ((sp_X8_takes μ  0).2)  (44 : Int32)).2)  (45 : Int32)).2)  1).1 : Int32) = 0 then
                (0, pM ((sp_X8_takes ((sp_X8_passes ((sp_X8_passes ((sp_X8_takes μ  0).2)  (44 : Int32)).2)  (45 : Int32)).2)  1).2) 13 1 (-(((sp_X8_takes ((sp_X8_passes ((sp_X8_passes ((sp_X8_takes μ  0).2)  (44 : Int32)).2)  (45 : Int32)).2)  1).2).1 13 1)))
              else
                if ((sp_X8_passes (pM ((sp_X8_takes ((sp_X8_passes ((sp_X8_passes ((sp_X8_takes μ  0).2)  (44 : Int32)).2)  (45 : Int32)).2)  1).2) 13 1 (-(((sp_X8_takes ((sp_X8_passes ((sp_X8_passes ((sp_X8_takes μ  0).2)  (44 : Int32)).2)  (45 : Int32)).2)  1).2).1 13 1)))  (59 : Int32)).1 : Int32) = 0 then
                  (0, (sp_X8_passes (pM ((sp_X8_takes ((sp_X8_passes ((sp_X8_passes ((sp_X8_takes μ  0).2)  (44 : Int32)).2)  (45 : Int32)).2)  1).2) 13 1 (-(((sp_X8_takes ((sp_X8_passes ((sp_X8_passes ((sp_X8_takes μ  0).2)  (44 : Int32)).2)  (45 : Int32)).2)  1).2).1 13 1)))  (59 : Int32)).2)
                else
                  (1, (sp_X8_passes (pM ((sp_X8_takes ((sp_X8_passes ((sp_X8_passes ((sp_X8_takes μ  0).2)  (44 : Int32)).2)  (45 : Int32)).2)  1).2) 13 1 (-(((sp_X8_takes ((sp_X8_passes ((sp_X8_passes ((sp_X8_takes μ  0).2)  (44 : Int32)).2)  (45 : Int32)).2)  1).2).1 13 1)))  (59 : Int32)).2)
      else
        if (ch : Int32) = 98 then
          if ((sp_X8_takes μ  0).1 : Int32) = 0 then
            (0, (sp_X8_takes μ  0).2)
          else
            if ((sp_X8_passes ((sp_X8_takes μ  0).2)  (44 : Int32)).1 : Int32) = 0 then
              (0, pM ((sp_X8_passes ((sp_X8_takes μ  0).2)  (44 : Int32)).2) 13 1 (((sp_X8_passes ((sp_X8_takes μ  0).2)  (44 : Int32)).2).1 13 1))
            else
              if ((sp_X8_takes ((sp_X8_passes ((sp_X8_takes μ  0).2)  (44 : Int32)).2)  1).1 : Int32) = 0 then
                (0, pM ((sp_X8_takes ((sp_X8_passes ((sp_X8_takes μ  0).2)  (44 : Int32)).2)  1).2) 13 1 (((sp_X8_takes ((sp_X8_passes ((sp_X8_takes μ  0).2)  (44 : Int32)).2)  1).2).1 13 1))
              else
                if ((sp_X8_passes (pM ((sp_X8_takes ((sp_X8_passes ((sp_X8_takes μ  0).2)  (44 : Int32)).2)  1).2) 13 1 (((sp_X8_takes ((sp_X8_passes ((sp_X8_takes μ  0).2)  (44 : Int32)).2)  1).2).1 13 1))  (59 : Int32)).1 : Int32) = 0 then
                  (0, (sp_X8_passes (pM ((sp_X8_takes ((sp_X8_passes ((sp_X8_takes μ  0).2)  (44 : Int32)).2)  1).2) 13 1 (((sp_X8_takes ((sp_X8_passes ((sp_X8_takes μ  0).2)  (44 : Int32)).2)  1).2).1 13 1))  (59 : Int32)).2)
                else
                  (1, (sp_X8_passes (pM ((sp_X8_takes ((sp_X8_passes ((sp_X8_takes μ  0).2)  (44 : Int32)).2)  1).2) 13 1 (((sp_X8_takes ((sp_X8_passes ((sp_X8_takes μ  0).2)  (44 : Int32)).2)  1).2).1 13 1))  (59 : Int32)).2)
        else
          if (ch : Int32) = 109 then
            if ((sp_X8_takes μ  0).1 : Int32) = 0 then
              (0, (sp_X8_takes μ  0).2)
            else
              if ((sp_X8_passes ((sp_X8_takes μ  0).2)  (44 : Int32)).1 : Int32) = 0 then
                (0, pM ((sp_X8_passes ((sp_X8_takes μ  0).2)  (44 : Int32)).2) 13 1 (((sp_X8_passes ((sp_X8_takes μ  0).2)  (44 : Int32)).2).1 13 1))
              else
                if ((sp_X8_takes ((sp_X8_passes ((sp_X8_takes μ  0).2)  (44 : Int32)).2)  1).1 : Int32) = 0 then
                  (0, pM ((sp_X8_takes ((sp_X8_passes ((sp_X8_takes μ  0).2)  (44 : Int32)).2)  1).2) 13 1 (((sp_X8_takes ((sp_X8_passes ((sp_X8_takes μ  0).2)  (44 : Int32)).2)  1).2).1 13 1))
                else
                  if ((sp_X8_passes (pM ((sp_X8_takes ((sp_X8_passes ((sp_X8_takes μ  0).2)  (44 : Int32)).2)  1).2) 13 1 (((sp_X8_takes ((sp_X8_passes ((sp_X8_takes μ  0).2)  (44 : Int32)).2)  1).2).1 13 1))  (59 : Int32)).1 : Int32) = 0 then
                    (0, (sp_X8_passes (pM ((sp_X8_takes ((sp_X8_passes ((sp_X8_takes μ  0).2)  (44 : Int32)).2)  1).2) 13 1 (((sp_X8_takes ((sp_X8_passes ((sp_X8_takes μ  0).2)  (44 : Int32)).2)  1).2).1 13 1))  (59 : Int32)).2)
                  else
                    (1, (sp_X8_passes (pM ((sp_X8_takes ((sp_X8_passes ((sp_X8_takes μ  0).2)  (44 : Int32)).2)  1).2) 13 1 (((sp_X8_takes ((sp_X8_passes ((sp_X8_takes μ  0).2)  (44 : Int32)).2)  1).2).1 13 1))  (59 : Int32)).2)
          else
            (0, μ)
set_option maxHeartbeats 4000000 in
set_option maxRecDepth 100000 in
theorem k_X8_readsForm (l : Launch) (E : En) (μ : Mu)  (ch : Int32) (hty : ni 61 (μ.1 7 1)) (hat : ni 61 (μ.1 7 2)) : MtI l yX8_readsForm cX8_readsForm 4 .boolean ({ frames := 2, cells := 0, slots := 0, locals := 44 }) [.ref (E.1 (232)), .int (ch)] E μ (sp_X8_readsForm μ ch) := by
  refine mt_of (by decide +kernel) (Nat.le_of_ble_eq_true rfl) ?_
  intro p e s m args below meth c ls hf hr hlocks hl hw
  have hx := hf.1
  have hb := hf.2.1
  have hl : lv_has ls 4 [(0, .ref (E.1 (232))), (1, .int (ch))] := hl
  have hh : AT μ := ⟨hty, hat⟩
  refine lv_iload_n hx hb dX8_readsForm_0 rfl (lv_at hl 1 rfl) ?_
  refine lv_bipush (v := 115) hx hb dX8_readsForm_1 (by decide) ?_
  refine lv_icmp_eq (tgt := 30) hx hb dX8_readsForm_3 (by decide) (fun c1 => ?_) (fun c1 => ?_)
  · refine lv_iconst (v := 1) hx hb dX8_readsForm_30 (by decide) ?_
    refine lv_goto (tgt := 35) hx hb dX8_readsForm_31 (by decide) ?_
    refine lv_istore_n (lv' := [(2, .int 1), (0, .ref (E.1 (232))), (1, .int (ch))]) hx hb dX8_readsForm_35 rfl hl (by decide) rfl (fun ls hl => ?_)
    refine lv_iload_n hx hb dX8_readsForm_36 rfl (lv_at hl 0 rfl) ?_
    refine lv_if_eq (tgt := 52) hx hb dX8_readsForm_37 (by decide) (fun c => absurd c (by decide)) (fun _ => ?_)
    refine lv_iload_n hx hb dX8_readsForm_40 rfl (lv_at hl 2 rfl) ?_
    refine lv_bipush (v := 115) hx hb dX8_readsForm_41 (by decide) ?_
    refine lv_icmp_eq (tgt := 52) hx hb dX8_readsForm_43 (by decide) (fun _ => ?_) (fun c => absurd c1 c)
    refine lv_iload_n hx hb dX8_readsForm_52 rfl (lv_at hl 0 rfl) ?_
    refine lv_if_eq (tgt := 150) hx hb dX8_readsForm_53 (by decide) (fun c => absurd c (by decide)) (fun _ => ?_)
    refine lv_iload_n hx hb dX8_readsForm_56 rfl (lv_at hl 2 rfl) ?_
    refine lv_bipush (v := 116) hx hb dX8_readsForm_57 (by decide) ?_
    refine lv_icmp_eq (tgt := 74) hx hb dX8_readsForm_59 (by decide) (fun c => absurd (Eq.trans (Eq.symm c1) c) (by decide)) (fun _ => ?_)
    refine lv_iload_n hx hb dX8_readsForm_62 rfl (lv_at hl 2 rfl) ?_
    refine lv_bipush (v := 98) hx hb dX8_readsForm_63 (by decide) ?_
    refine lv_icmp_eq (tgt := 74) hx hb dX8_readsForm_65 (by decide) (fun c => absurd (Eq.trans (Eq.symm c1) c) (by decide)) (fun _ => ?_)
    refine lv_iload_n hx hb dX8_readsForm_68 rfl (lv_at hl 2 rfl) ?_
    refine lv_bipush (v := 109) hx hb dX8_readsForm_69 (by decide) ?_
    refine lv_icmp_ne (tgt := 150) hx hb dX8_readsForm_71 (by decide) (fun _ => ?_) (fun c => absurd (Eq.trans (Eq.symm c1) c) (by decide))
    refine lv_iload_n hx hb dX8_readsForm_150 rfl (lv_at hl 0 rfl) ?_
    refine lv_if_eq (tgt := 167) hx hb dX8_readsForm_151 (by decide) (fun c => absurd c (by decide)) (fun _ => ?_)
    refine lv_aload_n hx hb dX8_readsForm_154 rfl (lv_at hl 1 rfl) ?_
    refine lv_bipush (v := 59) hx hb dX8_readsForm_155 (by decide) ?_
    refine c_i hw (run_V (As := [.int 59]) (rest := []) (np := 1) hf hw (k_X8_passes l E _  (59 : Int32)  hh.1 hh.2) ⟨gl_V q1006 q1007 q1008 q5 q1009, by decide +kernel⟩ ⟨rfl, rfl, Nat.le_of_ble_eq_true rfl, Nat.le_of_ble_eq_true rfl⟩ (by decide) (c_R E _) rfl rfl hl.1 rfl (Nat.le_of_ble_eq_true rfl) dX8_readsForm_157 ⟨Nat.zero_le _, Nat.zero_le _⟩) (fun H locs hw => ?_)
    refine lv_if_eq (tgt := 167) hx hb dX8_readsForm_160 (by decide) (fun c9 => ?_) (fun c9 => ?_)
    · refine lv_iconst (v := 0) hx hb dX8_readsForm_167 (by decide) ?_
      exact e_i hf hr hlocks hw rfl ((if_pos c1).trans ((if_pos c9).trans rfl)) dX8_readsForm_168
    · refine lv_iconst (v := 1) hx hb dX8_readsForm_163 (by decide) ?_
      refine lv_goto (tgt := 168) hx hb dX8_readsForm_164 (by decide) ?_
      exact e_i hf hr hlocks hw rfl ((if_pos c1).trans ((if_neg c9).trans rfl)) dX8_readsForm_168
  · refine lv_iload_n hx hb dX8_readsForm_6 rfl (lv_at hl 1 rfl) ?_
    refine lv_bipush (v := 114) hx hb dX8_readsForm_7 (by decide) ?_
    refine lv_icmp_eq (tgt := 30) hx hb dX8_readsForm_9 (by decide) (fun c10 => ?_) (fun c10 => ?_)
    · refine lv_iconst (v := 1) hx hb dX8_readsForm_30 (by decide) ?_
      refine lv_goto (tgt := 35) hx hb dX8_readsForm_31 (by decide) ?_
      refine lv_istore_n (lv' := [(2, .int 1), (0, .ref (E.1 (232))), (1, .int (ch))]) hx hb dX8_readsForm_35 rfl hl (by decide) rfl (fun ls hl => ?_)
      refine lv_iload_n hx hb dX8_readsForm_36 rfl (lv_at hl 0 rfl) ?_
      refine lv_if_eq (tgt := 52) hx hb dX8_readsForm_37 (by decide) (fun c => absurd c (by decide)) (fun _ => ?_)
      refine lv_iload_n hx hb dX8_readsForm_40 rfl (lv_at hl 2 rfl) ?_
      refine lv_bipush (v := 115) hx hb dX8_readsForm_41 (by decide) ?_
      refine lv_icmp_eq (tgt := 52) hx hb dX8_readsForm_43 (by decide) (fun c => absurd (Eq.trans (Eq.symm c10) c) (by decide)) (fun _ => ?_)
      refine lv_aload_n hx hb dX8_readsForm_46 rfl (lv_at hl 1 rfl) ?_
      refine lv_iconst (v := 0) hx hb dX8_readsForm_47 (by decide) ?_
      refine c_i hw (run_V (As := [.int 0]) (rest := []) (np := 1) hf hw (k_X8_takes l E _  0  hh.1 hh.2 (by omega)) ⟨gl_V q1002 q1003 q1004 q5 q1005, by decide +kernel⟩ ⟨rfl, rfl, Nat.le_of_ble_eq_true rfl, Nat.le_of_ble_eq_true rfl⟩ (by decide) (c_R E _) rfl rfl hl.1 rfl (Nat.le_of_ble_eq_true rfl) dX8_readsForm_48 ⟨Nat.zero_le _, Nat.zero_le _⟩) (fun H locs hw => ?_)
      refine lv_istore_n (lv' := [(2, .int ((sp_X8_takes μ  0).1)), (0, .ref (E.1 (232))), (1, .int (ch))]) hx hb dX8_readsForm_51 rfl hl (by decide) rfl (fun ls hl => ?_)
      refine lv_iload_n hx hb dX8_readsForm_52 rfl (lv_at hl 0 rfl) ?_
      refine lv_if_eq (tgt := 150) hx hb dX8_readsForm_53 (by decide) (fun c13 => ?_) (fun c13 => ?_)
      · refine lv_iload_n hx hb dX8_readsForm_150 rfl (lv_at hl 0 rfl) ?_
        refine lv_if_eq (tgt := 167) hx hb dX8_readsForm_151 (by decide) (fun _ => ?_) (fun c => absurd c13 c)
        refine lv_iconst (v := 0) hx hb dX8_readsForm_167 (by decide) ?_
        exact e_i hf hr hlocks hw rfl ((if_neg c1).trans ((if_pos c10).trans ((if_pos c13).trans rfl))) dX8_readsForm_168
      · refine lv_iload_n hx hb dX8_readsForm_56 rfl (lv_at hl 2 rfl) ?_
        refine lv_bipush (v := 116) hx hb dX8_readsForm_57 (by decide) ?_
        refine lv_icmp_eq (tgt := 74) hx hb dX8_readsForm_59 (by decide) (fun c => absurd (Eq.trans (Eq.symm c10) c) (by decide)) (fun _ => ?_)
        refine lv_iload_n hx hb dX8_readsForm_62 rfl (lv_at hl 2 rfl) ?_
        refine lv_bipush (v := 98) hx hb dX8_readsForm_63 (by decide) ?_
        refine lv_icmp_eq (tgt := 74) hx hb dX8_readsForm_65 (by decide) (fun c => absurd (Eq.trans (Eq.symm c10) c) (by decide)) (fun _ => ?_)
        refine lv_iload_n hx hb dX8_readsForm_68 rfl (lv_at hl 2 rfl) ?_
        refine lv_bipush (v := 109) hx hb dX8_readsForm_69 (by decide) ?_
        refine lv_icmp_ne (tgt := 150) hx hb dX8_readsForm_71 (by decide) (fun _ => ?_) (fun c => absurd (Eq.trans (Eq.symm c10) c) (by decide))
        refine lv_iload_n hx hb dX8_readsForm_150 rfl (lv_at hl 0 rfl) ?_
        refine lv_if_eq (tgt := 167) hx hb dX8_readsForm_151 (by decide) (fun c => absurd c c13) (fun _ => ?_)
        refine lv_aload_n hx hb dX8_readsForm_154 rfl (lv_at hl 1 rfl) ?_
        refine lv_bipush (v := 59) hx hb dX8_readsForm_155 (by decide) ?_
        refine c_i hw (run_V (As := [.int 59]) (rest := []) (np := 1) hf hw (k_X8_passes l E _  (59 : Int32)  (atp_X8_takes μ 0  hh).1 (atp_X8_takes μ 0  hh).2) ⟨gl_V q1006 q1007 q1008 q5 q1009, by decide +kernel⟩ ⟨rfl, rfl, Nat.le_of_ble_eq_true rfl, Nat.le_of_ble_eq_true rfl⟩ (by decide) (c_R E _) rfl rfl hl.1 rfl (Nat.le_of_ble_eq_true rfl) dX8_readsForm_157 ⟨Nat.zero_le _, Nat.zero_le _⟩) (fun H locs hw => ?_)
        refine lv_if_eq (tgt := 167) hx hb dX8_readsForm_160 (by decide) (fun c19 => ?_) (fun c19 => ?_)
        · refine lv_iconst (v := 0) hx hb dX8_readsForm_167 (by decide) ?_
          exact e_i hf hr hlocks hw rfl ((if_neg c1).trans ((if_pos c10).trans ((if_neg c13).trans ((if_pos c19).trans rfl)))) dX8_readsForm_168
        · refine lv_iconst (v := 1) hx hb dX8_readsForm_163 (by decide) ?_
          refine lv_goto (tgt := 168) hx hb dX8_readsForm_164 (by decide) ?_
          exact e_i hf hr hlocks hw rfl ((if_neg c1).trans ((if_pos c10).trans ((if_neg c13).trans ((if_neg c19).trans rfl)))) dX8_readsForm_168
    · refine lv_iload_n hx hb dX8_readsForm_12 rfl (lv_at hl 1 rfl) ?_
      refine lv_bipush (v := 116) hx hb dX8_readsForm_13 (by decide) ?_
      refine lv_icmp_eq (tgt := 30) hx hb dX8_readsForm_15 (by decide) (fun c20 => ?_) (fun c20 => ?_)
      · refine lv_iconst (v := 1) hx hb dX8_readsForm_30 (by decide) ?_
        refine lv_goto (tgt := 35) hx hb dX8_readsForm_31 (by decide) ?_
        refine lv_istore_n (lv' := [(2, .int 1), (0, .ref (E.1 (232))), (1, .int (ch))]) hx hb dX8_readsForm_35 rfl hl (by decide) rfl (fun ls hl => ?_)
        refine lv_iload_n hx hb dX8_readsForm_36 rfl (lv_at hl 0 rfl) ?_
        refine lv_if_eq (tgt := 52) hx hb dX8_readsForm_37 (by decide) (fun c => absurd c (by decide)) (fun _ => ?_)
        refine lv_iload_n hx hb dX8_readsForm_40 rfl (lv_at hl 2 rfl) ?_
        refine lv_bipush (v := 115) hx hb dX8_readsForm_41 (by decide) ?_
        refine lv_icmp_eq (tgt := 52) hx hb dX8_readsForm_43 (by decide) (fun c => absurd (Eq.trans (Eq.symm c20) c) (by decide)) (fun _ => ?_)
        refine lv_aload_n hx hb dX8_readsForm_46 rfl (lv_at hl 1 rfl) ?_
        refine lv_iconst (v := 0) hx hb dX8_readsForm_47 (by decide) ?_
        refine c_i hw (run_V (As := [.int 0]) (rest := []) (np := 1) hf hw (k_X8_takes l E _  0  hh.1 hh.2 (by omega)) ⟨gl_V q1002 q1003 q1004 q5 q1005, by decide +kernel⟩ ⟨rfl, rfl, Nat.le_of_ble_eq_true rfl, Nat.le_of_ble_eq_true rfl⟩ (by decide) (c_R E _) rfl rfl hl.1 rfl (Nat.le_of_ble_eq_true rfl) dX8_readsForm_48 ⟨Nat.zero_le _, Nat.zero_le _⟩) (fun H locs hw => ?_)
        refine lv_istore_n (lv' := [(2, .int ((sp_X8_takes μ  0).1)), (0, .ref (E.1 (232))), (1, .int (ch))]) hx hb dX8_readsForm_51 rfl hl (by decide) rfl (fun ls hl => ?_)
        refine lv_iload_n hx hb dX8_readsForm_52 rfl (lv_at hl 0 rfl) ?_
        refine lv_if_eq (tgt := 150) hx hb dX8_readsForm_53 (by decide) (fun c23 => ?_) (fun c23 => ?_)
        · refine lv_iload_n hx hb dX8_readsForm_150 rfl (lv_at hl 0 rfl) ?_
          refine lv_if_eq (tgt := 167) hx hb dX8_readsForm_151 (by decide) (fun _ => ?_) (fun c => absurd c23 c)
          refine lv_iconst (v := 0) hx hb dX8_readsForm_167 (by decide) ?_
          exact e_i hf hr hlocks hw rfl ((if_neg c1).trans ((if_neg c10).trans ((if_pos c20).trans ((if_pos c23).trans rfl)))) dX8_readsForm_168
        · refine lv_iload_n hx hb dX8_readsForm_56 rfl (lv_at hl 2 rfl) ?_
          refine lv_bipush (v := 116) hx hb dX8_readsForm_57 (by decide) ?_
          refine lv_icmp_eq (tgt := 74) hx hb dX8_readsForm_59 (by decide) (fun _ => ?_) (fun c => absurd c20 c)
          refine lv_aload_n hx hb dX8_readsForm_74 rfl (lv_at hl 1 rfl) ?_
          refine lv_bipush (v := 44) hx hb dX8_readsForm_75 (by decide) ?_
          refine c_i hw (run_V (As := [.int 44]) (rest := []) (np := 1) hf hw (k_X8_passes l E _  (44 : Int32)  (atp_X8_takes μ 0  hh).1 (atp_X8_takes μ 0  hh).2) ⟨gl_V q1006 q1007 q1008 q5 q1009, by decide +kernel⟩ ⟨rfl, rfl, Nat.le_of_ble_eq_true rfl, Nat.le_of_ble_eq_true rfl⟩ (by decide) (c_R E _) rfl rfl hl.1 rfl (Nat.le_of_ble_eq_true rfl) dX8_readsForm_77 ⟨Nat.zero_le _, Nat.zero_le _⟩) (fun H locs hw => ?_)
          refine lv_istore_n (lv' := [(2, .int ((sp_X8_passes ((sp_X8_takes μ  0).2)  (44 : Int32)).1)), (0, .ref (E.1 (232))), (1, .int (ch))]) hx hb dX8_readsForm_80 rfl hl (by decide) rfl (fun ls hl => ?_)
          refine lv_iload_n hx hb dX8_readsForm_81 rfl (lv_at hl 0 rfl) ?_
          refine lv_if_eq (tgt := 104) hx hb dX8_readsForm_82 (by decide) (fun c26 => ?_) (fun c26 => ?_)
          · refine lv_iconst (v := 0) hx hb dX8_readsForm_104 (by decide) ?_
            refine lv_istore_n (lv' := [(3, .int 0), (2, .int ((sp_X8_passes ((sp_X8_takes μ  0).2)  (44 : Int32)).1)), (0, .ref (E.1 (232))), (1, .int (ch))]) hx hb dX8_readsForm_105 rfl hl (by decide) rfl (fun ls hl => ?_)
            refine lv_iload_n hx hb dX8_readsForm_106 rfl (lv_at hl 1 rfl) ?_
            refine lv_if_eq (tgt := 122) hx hb dX8_readsForm_107 (by decide) (fun _ => ?_) (fun c => absurd c26 c)
            refine lv_iconst (v := 0) hx hb dX8_readsForm_122 (by decide) ?_
            refine lv_istore_n (lv' := [(2, .int 0), (3, .int 0), (0, .ref (E.1 (232))), (1, .int (ch))]) hx hb dX8_readsForm_123 rfl hl (by decide) rfl (fun ls hl => ?_)
            refine lv_aload_n hx hb dX8_readsForm_124 rfl (lv_at hl 2 rfl) ?_
            refine g_f hw hf (by decide) (c_R E _) rfl inlX8 9 (by decide) rfl q95 rfl dX8_readsForm_125 ?_
            refine lv_iconst (v := 1) hx hb dX8_readsForm_128 (by decide) ?_
            refine lv_iload_n hx hb dX8_readsForm_129 rfl (lv_at hl 1 rfl) ?_
            refine lv_if_eq (tgt := 143) hx hb dX8_readsForm_130 (by decide) (fun _ => ?_) (fun c => absurd c (by decide))
            refine lv_aload_n hx hb dX8_readsForm_143 rfl (lv_at hl 2 rfl) ?_
            refine g_f hw hf (by decide) (c_R E _) rfl inlX8 9 (by decide) rfl q95 rfl dX8_readsForm_144 ?_
            refine lv_iconst (v := 1) hx hb dX8_readsForm_147 (by decide) ?_
            refine g_a hw hf (by decide) (c_Rg E _) (vp_lit 1 2 (by decide) (by decide)) (tr_at (y := 1) (by decide) (by decide)) dX8_readsForm_148 ?_
            refine p_a hw hf (by decide) (c_Rg E _) (vp_lit 1 2 (by decide) (by decide)) (by rw [show (1 : Int32).toNatClampNeg = 1 from (by decide)]; exact (s_Rg E _ (by decide) _)) dX8_readsForm_149 (fun H locs hw => ?_)
            refine lv_iload_n hx hb dX8_readsForm_150 rfl (lv_at hl 0 rfl) ?_
            refine lv_if_eq (tgt := 167) hx hb dX8_readsForm_151 (by decide) (fun _ => ?_) (fun c => absurd c (by decide))
            refine lv_iconst (v := 0) hx hb dX8_readsForm_167 (by decide) ?_
            exact e_i hf hr hlocks hw rfl ((if_neg c1).trans ((if_neg c10).trans ((if_pos c20).trans ((if_neg c23).trans ((if_pos c26).trans rfl))))) dX8_readsForm_168
          · refine lv_iload_n hx hb dX8_readsForm_85 rfl (lv_at hl 2 rfl) ?_
            refine lv_bipush (v := 116) hx hb dX8_readsForm_86 (by decide) ?_
            refine lv_icmp_ne (tgt := 104) hx hb dX8_readsForm_88 (by decide) (fun c => absurd c20 c) (fun _ => ?_)
            refine lv_aload_n hx hb dX8_readsForm_91 rfl (lv_at hl 1 rfl) ?_
            refine lv_bipush (v := 45) hx hb dX8_readsForm_92 (by decide) ?_
            refine c_i hw (run_V (As := [.int 45]) (rest := []) (np := 1) hf hw (k_X8_passes l E _  (45 : Int32)  (atp_X8_passes ((sp_X8_takes μ  0).2) (44 : Int32)  (atp_X8_takes μ 0  hh)).1 (atp_X8_passes ((sp_X8_takes μ  0).2) (44 : Int32)  (atp_X8_takes μ 0  hh)).2) ⟨gl_V q1006 q1007 q1008 q5 q1009, by decide +kernel⟩ ⟨rfl, rfl, Nat.le_of_ble_eq_true rfl, Nat.le_of_ble_eq_true rfl⟩ (by decide) (c_R E _) rfl rfl hl.1 rfl (Nat.le_of_ble_eq_true rfl) dX8_readsForm_94 ⟨Nat.zero_le _, Nat.zero_le _⟩) (fun H locs hw => ?_)
            refine lv_if_eq (tgt := 104) hx hb dX8_readsForm_97 (by decide) (fun c31 => ?_) (fun c31 => ?_)
            · refine lv_iconst (v := 0) hx hb dX8_readsForm_104 (by decide) ?_
              refine lv_istore_n (lv' := [(3, .int 0), (2, .int ((sp_X8_passes ((sp_X8_takes μ  0).2)  (44 : Int32)).1)), (0, .ref (E.1 (232))), (1, .int (ch))]) hx hb dX8_readsForm_105 rfl hl (by decide) rfl (fun ls hl => ?_)
              refine lv_iload_n hx hb dX8_readsForm_106 rfl (lv_at hl 1 rfl) ?_
              refine lv_if_eq (tgt := 122) hx hb dX8_readsForm_107 (by decide) (fun c => absurd c c26) (fun _ => ?_)
              refine lv_aload_n hx hb dX8_readsForm_110 rfl (lv_at hl 2 rfl) ?_
              refine lv_iconst (v := 1) hx hb dX8_readsForm_111 (by decide) ?_
              refine c_i hw (run_V (As := [.int 1]) (rest := []) (np := 1) hf hw (k_X8_takes l E _  1  (atp_X8_passes ((sp_X8_passes ((sp_X8_takes μ  0).2)  (44 : Int32)).2) (45 : Int32)  (atp_X8_passes ((sp_X8_takes μ  0).2) (44 : Int32)  (atp_X8_takes μ 0  hh))).1 (atp_X8_passes ((sp_X8_passes ((sp_X8_takes μ  0).2)  (44 : Int32)).2) (45 : Int32)  (atp_X8_passes ((sp_X8_takes μ  0).2) (44 : Int32)  (atp_X8_takes μ 0  hh))).2 (by omega)) ⟨gl_V q1002 q1003 q1004 q5 q1005, by decide +kernel⟩ ⟨rfl, rfl, Nat.le_of_ble_eq_true rfl, Nat.le_of_ble_eq_true rfl⟩ (by decide) (c_R E _) rfl rfl hl.1 rfl (Nat.le_of_ble_eq_true rfl) dX8_readsForm_112 ⟨Nat.zero_le _, Nat.zero_le _⟩) (fun H locs hw => ?_)
              refine lv_if_eq (tgt := 122) hx hb dX8_readsForm_115 (by decide) (fun c33 => ?_) (fun c33 => ?_)
              · refine lv_iconst (v := 0) hx hb dX8_readsForm_122 (by decide) ?_
                refine lv_istore_n (lv' := [(2, .int 0), (3, .int 0), (0, .ref (E.1 (232))), (1, .int (ch))]) hx hb dX8_readsForm_123 rfl hl (by decide) rfl (fun ls hl => ?_)
                refine lv_aload_n hx hb dX8_readsForm_124 rfl (lv_at hl 2 rfl) ?_
                refine g_f hw hf (by decide) (c_R E _) rfl inlX8 9 (by decide) rfl q95 rfl dX8_readsForm_125 ?_
                refine lv_iconst (v := 1) hx hb dX8_readsForm_128 (by decide) ?_
                refine lv_iload_n hx hb dX8_readsForm_129 rfl (lv_at hl 1 rfl) ?_
                refine lv_if_eq (tgt := 143) hx hb dX8_readsForm_130 (by decide) (fun _ => ?_) (fun c => absurd c (by decide))
                refine lv_aload_n hx hb dX8_readsForm_143 rfl (lv_at hl 2 rfl) ?_
                refine g_f hw hf (by decide) (c_R E _) rfl inlX8 9 (by decide) rfl q95 rfl dX8_readsForm_144 ?_
                refine lv_iconst (v := 1) hx hb dX8_readsForm_147 (by decide) ?_
                refine g_a hw hf (by decide) (c_Rg E _) (vp_lit 1 2 (by decide) (by decide)) (tr_at (y := 1) (by decide) (by decide)) dX8_readsForm_148 ?_
                refine p_a hw hf (by decide) (c_Rg E _) (vp_lit 1 2 (by decide) (by decide)) (by rw [show (1 : Int32).toNatClampNeg = 1 from (by decide)]; exact (s_Rg E _ (by decide) _)) dX8_readsForm_149 (fun H locs hw => ?_)
                refine lv_iload_n hx hb dX8_readsForm_150 rfl (lv_at hl 0 rfl) ?_
                refine lv_if_eq (tgt := 167) hx hb dX8_readsForm_151 (by decide) (fun _ => ?_) (fun c => absurd c (by decide))
                refine lv_iconst (v := 0) hx hb dX8_readsForm_167 (by decide) ?_
                exact e_i hf hr hlocks hw rfl ((if_neg c1).trans ((if_neg c10).trans ((if_pos c20).trans ((if_neg c23).trans ((if_neg c26).trans ((if_pos c31).trans ((if_pos c33).trans rfl))))))) dX8_readsForm_168
              · refine lv_iconst (v := 1) hx hb dX8_readsForm_118 (by decide) ?_
                refine lv_goto (tgt := 123) hx hb dX8_readsForm_119 (by decide) ?_
                refine lv_istore_n (lv' := [(2, .int 1), (3, .int 0), (0, .ref (E.1 (232))), (1, .int (ch))]) hx hb dX8_readsForm_123 rfl hl (by decide) rfl (fun ls hl => ?_)
                refine lv_aload_n hx hb dX8_readsForm_124 rfl (lv_at hl 2 rfl) ?_
                refine g_f hw hf (by decide) (c_R E _) rfl inlX8 9 (by decide) rfl q95 rfl dX8_readsForm_125 ?_
                refine lv_iconst (v := 1) hx hb dX8_readsForm_128 (by decide) ?_
                refine lv_iload_n hx hb dX8_readsForm_129 rfl (lv_at hl 1 rfl) ?_
                refine lv_if_eq (tgt := 143) hx hb dX8_readsForm_130 (by decide) (fun _ => ?_) (fun c => absurd c (by decide))
                refine lv_aload_n hx hb dX8_readsForm_143 rfl (lv_at hl 2 rfl) ?_
                refine g_f hw hf (by decide) (c_R E _) rfl inlX8 9 (by decide) rfl q95 rfl dX8_readsForm_144 ?_
                refine lv_iconst (v := 1) hx hb dX8_readsForm_147 (by decide) ?_
                refine g_a hw hf (by decide) (c_Rg E _) (vp_lit 1 2 (by decide) (by decide)) (tr_at (y := 1) (by decide) (by decide)) dX8_readsForm_148 ?_
                refine p_a hw hf (by decide) (c_Rg E _) (vp_lit 1 2 (by decide) (by decide)) (by rw [show (1 : Int32).toNatClampNeg = 1 from (by decide)]; exact (s_Rg E _ (by decide) _)) dX8_readsForm_149 (fun H locs hw => ?_)
                refine lv_iload_n hx hb dX8_readsForm_150 rfl (lv_at hl 0 rfl) ?_
                refine lv_if_eq (tgt := 167) hx hb dX8_readsForm_151 (by decide) (fun c => absurd c (by decide)) (fun _ => ?_)
                refine lv_aload_n hx hb dX8_readsForm_154 rfl (lv_at hl 2 rfl) ?_
                refine lv_bipush (v := 59) hx hb dX8_readsForm_155 (by decide) ?_
                refine c_i hw (run_V (As := [.int 59]) (rest := []) (np := 1) hf hw (k_X8_passes l E _  (59 : Int32)  (at_pM (by decide) (atp_X8_takes ((sp_X8_passes ((sp_X8_passes ((sp_X8_takes μ  0).2)  (44 : Int32)).2)  (45 : Int32)).2) 1  (atp_X8_passes ((sp_X8_passes ((sp_X8_takes μ  0).2)  (44 : Int32)).2) (45 : Int32)  (atp_X8_passes ((sp_X8_takes μ  0).2) (44 : Int32)  (atp_X8_takes μ 0  hh))))).1 (at_pM (by decide) (atp_X8_takes ((sp_X8_passes ((sp_X8_passes ((sp_X8_takes μ  0).2)  (44 : Int32)).2)  (45 : Int32)).2) 1  (atp_X8_passes ((sp_X8_passes ((sp_X8_takes μ  0).2)  (44 : Int32)).2) (45 : Int32)  (atp_X8_passes ((sp_X8_takes μ  0).2) (44 : Int32)  (atp_X8_takes μ 0  hh))))).2) ⟨gl_V q1006 q1007 q1008 q5 q1009, by decide +kernel⟩ ⟨rfl, rfl, Nat.le_of_ble_eq_true rfl, Nat.le_of_ble_eq_true rfl⟩ (by decide) (c_R E _) rfl rfl hl.1 rfl (Nat.le_of_ble_eq_true rfl) dX8_readsForm_157 ⟨Nat.zero_le _, Nat.zero_le _⟩) (fun H locs hw => ?_)
                refine lv_if_eq (tgt := 167) hx hb dX8_readsForm_160 (by decide) (fun c38 => ?_) (fun c38 => ?_)
                · refine lv_iconst (v := 0) hx hb dX8_readsForm_167 (by decide) ?_
                  exact e_i hf hr hlocks hw rfl ((if_neg c1).trans ((if_neg c10).trans ((if_pos c20).trans ((if_neg c23).trans ((if_neg c26).trans ((if_pos c31).trans ((if_neg c33).trans ((if_pos c38).trans rfl)))))))) dX8_readsForm_168
                · refine lv_iconst (v := 1) hx hb dX8_readsForm_163 (by decide) ?_
                  refine lv_goto (tgt := 168) hx hb dX8_readsForm_164 (by decide) ?_
                  exact e_i hf hr hlocks hw rfl ((if_neg c1).trans ((if_neg c10).trans ((if_pos c20).trans ((if_neg c23).trans ((if_neg c26).trans ((if_pos c31).trans ((if_neg c33).trans ((if_neg c38).trans rfl)))))))) dX8_readsForm_168
            · refine lv_iconst (v := 1) hx hb dX8_readsForm_100 (by decide) ?_
              refine lv_goto (tgt := 105) hx hb dX8_readsForm_101 (by decide) ?_
              refine lv_istore_n (lv' := [(3, .int 1), (2, .int ((sp_X8_passes ((sp_X8_takes μ  0).2)  (44 : Int32)).1)), (0, .ref (E.1 (232))), (1, .int (ch))]) hx hb dX8_readsForm_105 rfl hl (by decide) rfl (fun ls hl => ?_)
              refine lv_iload_n hx hb dX8_readsForm_106 rfl (lv_at hl 1 rfl) ?_
              refine lv_if_eq (tgt := 122) hx hb dX8_readsForm_107 (by decide) (fun c => absurd c c26) (fun _ => ?_)
              refine lv_aload_n hx hb dX8_readsForm_110 rfl (lv_at hl 2 rfl) ?_
              refine lv_iconst (v := 1) hx hb dX8_readsForm_111 (by decide) ?_
              refine c_i hw (run_V (As := [.int 1]) (rest := []) (np := 1) hf hw (k_X8_takes l E _  1  (atp_X8_passes ((sp_X8_passes ((sp_X8_takes μ  0).2)  (44 : Int32)).2) (45 : Int32)  (atp_X8_passes ((sp_X8_takes μ  0).2) (44 : Int32)  (atp_X8_takes μ 0  hh))).1 (atp_X8_passes ((sp_X8_passes ((sp_X8_takes μ  0).2)  (44 : Int32)).2) (45 : Int32)  (atp_X8_passes ((sp_X8_takes μ  0).2) (44 : Int32)  (atp_X8_takes μ 0  hh))).2 (by omega)) ⟨gl_V q1002 q1003 q1004 q5 q1005, by decide +kernel⟩ ⟨rfl, rfl, Nat.le_of_ble_eq_true rfl, Nat.le_of_ble_eq_true rfl⟩ (by decide) (c_R E _) rfl rfl hl.1 rfl (Nat.le_of_ble_eq_true rfl) dX8_readsForm_112 ⟨Nat.zero_le _, Nat.zero_le _⟩) (fun H locs hw => ?_)
              refine lv_if_eq (tgt := 122) hx hb dX8_readsForm_115 (by decide) (fun c40 => ?_) (fun c40 => ?_)
              · refine lv_iconst (v := 0) hx hb dX8_readsForm_122 (by decide) ?_
                refine lv_istore_n (lv' := [(2, .int 0), (3, .int 1), (0, .ref (E.1 (232))), (1, .int (ch))]) hx hb dX8_readsForm_123 rfl hl (by decide) rfl (fun ls hl => ?_)
                refine lv_aload_n hx hb dX8_readsForm_124 rfl (lv_at hl 2 rfl) ?_
                refine g_f hw hf (by decide) (c_R E _) rfl inlX8 9 (by decide) rfl q95 rfl dX8_readsForm_125 ?_
                refine lv_iconst (v := 1) hx hb dX8_readsForm_128 (by decide) ?_
                refine lv_iload_n hx hb dX8_readsForm_129 rfl (lv_at hl 1 rfl) ?_
                refine lv_if_eq (tgt := 143) hx hb dX8_readsForm_130 (by decide) (fun c => absurd c (by decide)) (fun _ => ?_)
                refine lv_aload_n hx hb dX8_readsForm_133 rfl (lv_at hl 2 rfl) ?_
                refine g_f hw hf (by decide) (c_R E _) rfl inlX8 9 (by decide) rfl q95 rfl dX8_readsForm_134 ?_
                refine lv_iconst (v := 1) hx hb dX8_readsForm_137 (by decide) ?_
                refine g_a hw hf (by decide) (c_Rg E _) (vp_lit 1 2 (by decide) (by decide)) (tr_at (y := 1) (by decide) (by decide)) dX8_readsForm_138 ?_
                refine lv_ineg hx hb dX8_readsForm_139 ?_
                refine lv_goto (tgt := 149) hx hb dX8_readsForm_140 (by decide) ?_
                refine p_a hw hf (by decide) (c_Rg E _) (vp_lit 1 2 (by decide) (by decide)) (by rw [show (1 : Int32).toNatClampNeg = 1 from (by decide)]; exact (s_Rg E _ (by decide) _)) dX8_readsForm_149 (fun H locs hw => ?_)
                refine lv_iload_n hx hb dX8_readsForm_150 rfl (lv_at hl 0 rfl) ?_
                refine lv_if_eq (tgt := 167) hx hb dX8_readsForm_151 (by decide) (fun _ => ?_) (fun c => absurd c (by decide))
                refine lv_iconst (v := 0) hx hb dX8_readsForm_167 (by decide) ?_
                exact e_i hf hr hlocks hw rfl ((if_neg c1).trans ((if_neg c10).trans ((if_pos c20).trans ((if_neg c23).trans ((if_neg c26).trans ((if_neg c31).trans ((if_pos c40).trans rfl))))))) dX8_readsForm_168
              · refine lv_iconst (v := 1) hx hb dX8_readsForm_118 (by decide) ?_
                refine lv_goto (tgt := 123) hx hb dX8_readsForm_119 (by decide) ?_
                refine lv_istore_n (lv' := [(2, .int 1), (3, .int 1), (0, .ref (E.1 (232))), (1, .int (ch))]) hx hb dX8_readsForm_123 rfl hl (by decide) rfl (fun ls hl => ?_)
                refine lv_aload_n hx hb dX8_readsForm_124 rfl (lv_at hl 2 rfl) ?_
                refine g_f hw hf (by decide) (c_R E _) rfl inlX8 9 (by decide) rfl q95 rfl dX8_readsForm_125 ?_
                refine lv_iconst (v := 1) hx hb dX8_readsForm_128 (by decide) ?_
                refine lv_iload_n hx hb dX8_readsForm_129 rfl (lv_at hl 1 rfl) ?_
                refine lv_if_eq (tgt := 143) hx hb dX8_readsForm_130 (by decide) (fun c => absurd c (by decide)) (fun _ => ?_)
                refine lv_aload_n hx hb dX8_readsForm_133 rfl (lv_at hl 2 rfl) ?_
                refine g_f hw hf (by decide) (c_R E _) rfl inlX8 9 (by decide) rfl q95 rfl dX8_readsForm_134 ?_
                refine lv_iconst (v := 1) hx hb dX8_readsForm_137 (by decide) ?_
                refine g_a hw hf (by decide) (c_Rg E _) (vp_lit 1 2 (by decide) (by decide)) (tr_at (y := 1) (by decide) (by decide)) dX8_readsForm_138 ?_
                refine lv_ineg hx hb dX8_readsForm_139 ?_
                refine lv_goto (tgt := 149) hx hb dX8_readsForm_140 (by decide) ?_
                refine p_a hw hf (by decide) (c_Rg E _) (vp_lit 1 2 (by decide) (by decide)) (by rw [show (1 : Int32).toNatClampNeg = 1 from (by decide)]; exact (s_Rg E _ (by decide) _)) dX8_readsForm_149 (fun H locs hw => ?_)
                refine lv_iload_n hx hb dX8_readsForm_150 rfl (lv_at hl 0 rfl) ?_
                refine lv_if_eq (tgt := 167) hx hb dX8_readsForm_151 (by decide) (fun c => absurd c (by decide)) (fun _ => ?_)
                refine lv_aload_n hx hb dX8_readsForm_154 rfl (lv_at hl 2 rfl) ?_
                refine lv_bipush (v := 59) hx hb dX8_readsForm_155 (by decide) ?_
                refine c_i hw (run_V (As := [.int 59]) (rest := []) (np := 1) hf hw (k_X8_passes l E _  (59 : Int32)  (at_pM (by decide) (atp_X8_takes ((sp_X8_passes ((sp_X8_passes ((sp_X8_takes μ  0).2)  (44 : Int32)).2)  (45 : Int32)).2) 1  (atp_X8_passes ((sp_X8_passes ((sp_X8_takes μ  0).2)  (44 : Int32)).2) (45 : Int32)  (atp_X8_passes ((sp_X8_takes μ  0).2) (44 : Int32)  (atp_X8_takes μ 0  hh))))).1 (at_pM (by decide) (atp_X8_takes ((sp_X8_passes ((sp_X8_passes ((sp_X8_takes μ  0).2)  (44 : Int32)).2)  (45 : Int32)).2) 1  (atp_X8_passes ((sp_X8_passes ((sp_X8_takes μ  0).2)  (44 : Int32)).2) (45 : Int32)  (atp_X8_passes ((sp_X8_takes μ  0).2) (44 : Int32)  (atp_X8_takes μ 0  hh))))).2) ⟨gl_V q1006 q1007 q1008 q5 q1009, by decide +kernel⟩ ⟨rfl, rfl, Nat.le_of_ble_eq_true rfl, Nat.le_of_ble_eq_true rfl⟩ (by decide) (c_R E _) rfl rfl hl.1 rfl (Nat.le_of_ble_eq_true rfl) dX8_readsForm_157 ⟨Nat.zero_le _, Nat.zero_le _⟩) (fun H locs hw => ?_)
                refine lv_if_eq (tgt := 167) hx hb dX8_readsForm_160 (by decide) (fun c45 => ?_) (fun c45 => ?_)
                · refine lv_iconst (v := 0) hx hb dX8_readsForm_167 (by decide) ?_
                  exact e_i hf hr hlocks hw rfl ((if_neg c1).trans ((if_neg c10).trans ((if_pos c20).trans ((if_neg c23).trans ((if_neg c26).trans ((if_neg c31).trans ((if_neg c40).trans ((if_pos c45).trans rfl)))))))) dX8_readsForm_168
                · refine lv_iconst (v := 1) hx hb dX8_readsForm_163 (by decide) ?_
                  refine lv_goto (tgt := 168) hx hb dX8_readsForm_164 (by decide) ?_
                  exact e_i hf hr hlocks hw rfl ((if_neg c1).trans ((if_neg c10).trans ((if_pos c20).trans ((if_neg c23).trans ((if_neg c26).trans ((if_neg c31).trans ((if_neg c40).trans ((if_neg c45).trans rfl)))))))) dX8_readsForm_168
      · refine lv_iload_n hx hb dX8_readsForm_18 rfl (lv_at hl 1 rfl) ?_
        refine lv_bipush (v := 98) hx hb dX8_readsForm_19 (by decide) ?_
        refine lv_icmp_eq (tgt := 30) hx hb dX8_readsForm_21 (by decide) (fun c46 => ?_) (fun c46 => ?_)
        · refine lv_iconst (v := 1) hx hb dX8_readsForm_30 (by decide) ?_
          refine lv_goto (tgt := 35) hx hb dX8_readsForm_31 (by decide) ?_
          refine lv_istore_n (lv' := [(2, .int 1), (0, .ref (E.1 (232))), (1, .int (ch))]) hx hb dX8_readsForm_35 rfl hl (by decide) rfl (fun ls hl => ?_)
          refine lv_iload_n hx hb dX8_readsForm_36 rfl (lv_at hl 0 rfl) ?_
          refine lv_if_eq (tgt := 52) hx hb dX8_readsForm_37 (by decide) (fun c => absurd c (by decide)) (fun _ => ?_)
          refine lv_iload_n hx hb dX8_readsForm_40 rfl (lv_at hl 2 rfl) ?_
          refine lv_bipush (v := 115) hx hb dX8_readsForm_41 (by decide) ?_
          refine lv_icmp_eq (tgt := 52) hx hb dX8_readsForm_43 (by decide) (fun c => absurd (Eq.trans (Eq.symm c46) c) (by decide)) (fun _ => ?_)
          refine lv_aload_n hx hb dX8_readsForm_46 rfl (lv_at hl 1 rfl) ?_
          refine lv_iconst (v := 0) hx hb dX8_readsForm_47 (by decide) ?_
          refine c_i hw (run_V (As := [.int 0]) (rest := []) (np := 1) hf hw (k_X8_takes l E _  0  hh.1 hh.2 (by omega)) ⟨gl_V q1002 q1003 q1004 q5 q1005, by decide +kernel⟩ ⟨rfl, rfl, Nat.le_of_ble_eq_true rfl, Nat.le_of_ble_eq_true rfl⟩ (by decide) (c_R E _) rfl rfl hl.1 rfl (Nat.le_of_ble_eq_true rfl) dX8_readsForm_48 ⟨Nat.zero_le _, Nat.zero_le _⟩) (fun H locs hw => ?_)
          refine lv_istore_n (lv' := [(2, .int ((sp_X8_takes μ  0).1)), (0, .ref (E.1 (232))), (1, .int (ch))]) hx hb dX8_readsForm_51 rfl hl (by decide) rfl (fun ls hl => ?_)
          refine lv_iload_n hx hb dX8_readsForm_52 rfl (lv_at hl 0 rfl) ?_
          refine lv_if_eq (tgt := 150) hx hb dX8_readsForm_53 (by decide) (fun c49 => ?_) (fun c49 => ?_)
          · refine lv_iload_n hx hb dX8_readsForm_150 rfl (lv_at hl 0 rfl) ?_
            refine lv_if_eq (tgt := 167) hx hb dX8_readsForm_151 (by decide) (fun _ => ?_) (fun c => absurd c49 c)
            refine lv_iconst (v := 0) hx hb dX8_readsForm_167 (by decide) ?_
            exact e_i hf hr hlocks hw rfl ((if_neg c1).trans ((if_neg c10).trans ((if_neg c20).trans ((if_pos c46).trans ((if_pos c49).trans rfl))))) dX8_readsForm_168
          · refine lv_iload_n hx hb dX8_readsForm_56 rfl (lv_at hl 2 rfl) ?_
            refine lv_bipush (v := 116) hx hb dX8_readsForm_57 (by decide) ?_
            refine lv_icmp_eq (tgt := 74) hx hb dX8_readsForm_59 (by decide) (fun c => absurd (Eq.trans (Eq.symm c46) c) (by decide)) (fun _ => ?_)
            refine lv_iload_n hx hb dX8_readsForm_62 rfl (lv_at hl 2 rfl) ?_
            refine lv_bipush (v := 98) hx hb dX8_readsForm_63 (by decide) ?_
            refine lv_icmp_eq (tgt := 74) hx hb dX8_readsForm_65 (by decide) (fun _ => ?_) (fun c => absurd c46 c)
            refine lv_aload_n hx hb dX8_readsForm_74 rfl (lv_at hl 1 rfl) ?_
            refine lv_bipush (v := 44) hx hb dX8_readsForm_75 (by decide) ?_
            refine c_i hw (run_V (As := [.int 44]) (rest := []) (np := 1) hf hw (k_X8_passes l E _  (44 : Int32)  (atp_X8_takes μ 0  hh).1 (atp_X8_takes μ 0  hh).2) ⟨gl_V q1006 q1007 q1008 q5 q1009, by decide +kernel⟩ ⟨rfl, rfl, Nat.le_of_ble_eq_true rfl, Nat.le_of_ble_eq_true rfl⟩ (by decide) (c_R E _) rfl rfl hl.1 rfl (Nat.le_of_ble_eq_true rfl) dX8_readsForm_77 ⟨Nat.zero_le _, Nat.zero_le _⟩) (fun H locs hw => ?_)
            refine lv_istore_n (lv' := [(2, .int ((sp_X8_passes ((sp_X8_takes μ  0).2)  (44 : Int32)).1)), (0, .ref (E.1 (232))), (1, .int (ch))]) hx hb dX8_readsForm_80 rfl hl (by decide) rfl (fun ls hl => ?_)
            refine lv_iload_n hx hb dX8_readsForm_81 rfl (lv_at hl 0 rfl) ?_
            refine lv_if_eq (tgt := 104) hx hb dX8_readsForm_82 (by decide) (fun c53 => ?_) (fun c53 => ?_)
            · refine lv_iconst (v := 0) hx hb dX8_readsForm_104 (by decide) ?_
              refine lv_istore_n (lv' := [(3, .int 0), (2, .int ((sp_X8_passes ((sp_X8_takes μ  0).2)  (44 : Int32)).1)), (0, .ref (E.1 (232))), (1, .int (ch))]) hx hb dX8_readsForm_105 rfl hl (by decide) rfl (fun ls hl => ?_)
              refine lv_iload_n hx hb dX8_readsForm_106 rfl (lv_at hl 1 rfl) ?_
              refine lv_if_eq (tgt := 122) hx hb dX8_readsForm_107 (by decide) (fun _ => ?_) (fun c => absurd c53 c)
              refine lv_iconst (v := 0) hx hb dX8_readsForm_122 (by decide) ?_
              refine lv_istore_n (lv' := [(2, .int 0), (3, .int 0), (0, .ref (E.1 (232))), (1, .int (ch))]) hx hb dX8_readsForm_123 rfl hl (by decide) rfl (fun ls hl => ?_)
              refine lv_aload_n hx hb dX8_readsForm_124 rfl (lv_at hl 2 rfl) ?_
              refine g_f hw hf (by decide) (c_R E _) rfl inlX8 9 (by decide) rfl q95 rfl dX8_readsForm_125 ?_
              refine lv_iconst (v := 1) hx hb dX8_readsForm_128 (by decide) ?_
              refine lv_iload_n hx hb dX8_readsForm_129 rfl (lv_at hl 1 rfl) ?_
              refine lv_if_eq (tgt := 143) hx hb dX8_readsForm_130 (by decide) (fun _ => ?_) (fun c => absurd c (by decide))
              refine lv_aload_n hx hb dX8_readsForm_143 rfl (lv_at hl 2 rfl) ?_
              refine g_f hw hf (by decide) (c_R E _) rfl inlX8 9 (by decide) rfl q95 rfl dX8_readsForm_144 ?_
              refine lv_iconst (v := 1) hx hb dX8_readsForm_147 (by decide) ?_
              refine g_a hw hf (by decide) (c_Rg E _) (vp_lit 1 2 (by decide) (by decide)) (tr_at (y := 1) (by decide) (by decide)) dX8_readsForm_148 ?_
              refine p_a hw hf (by decide) (c_Rg E _) (vp_lit 1 2 (by decide) (by decide)) (by rw [show (1 : Int32).toNatClampNeg = 1 from (by decide)]; exact (s_Rg E _ (by decide) _)) dX8_readsForm_149 (fun H locs hw => ?_)
              refine lv_iload_n hx hb dX8_readsForm_150 rfl (lv_at hl 0 rfl) ?_
              refine lv_if_eq (tgt := 167) hx hb dX8_readsForm_151 (by decide) (fun _ => ?_) (fun c => absurd c (by decide))
              refine lv_iconst (v := 0) hx hb dX8_readsForm_167 (by decide) ?_
              exact e_i hf hr hlocks hw rfl ((if_neg c1).trans ((if_neg c10).trans ((if_neg c20).trans ((if_pos c46).trans ((if_neg c49).trans ((if_pos c53).trans rfl)))))) dX8_readsForm_168
            · refine lv_iload_n hx hb dX8_readsForm_85 rfl (lv_at hl 2 rfl) ?_
              refine lv_bipush (v := 116) hx hb dX8_readsForm_86 (by decide) ?_
              refine lv_icmp_ne (tgt := 104) hx hb dX8_readsForm_88 (by decide) (fun _ => ?_) (fun c => absurd (Eq.trans (Eq.symm c46) c) (by decide))
              refine lv_iconst (v := 0) hx hb dX8_readsForm_104 (by decide) ?_
              refine lv_istore_n (lv' := [(3, .int 0), (2, .int ((sp_X8_passes ((sp_X8_takes μ  0).2)  (44 : Int32)).1)), (0, .ref (E.1 (232))), (1, .int (ch))]) hx hb dX8_readsForm_105 rfl hl (by decide) rfl (fun ls hl => ?_)
              refine lv_iload_n hx hb dX8_readsForm_106 rfl (lv_at hl 1 rfl) ?_
              refine lv_if_eq (tgt := 122) hx hb dX8_readsForm_107 (by decide) (fun c => absurd c c53) (fun _ => ?_)
              refine lv_aload_n hx hb dX8_readsForm_110 rfl (lv_at hl 2 rfl) ?_
              refine lv_iconst (v := 1) hx hb dX8_readsForm_111 (by decide) ?_
              refine c_i hw (run_V (As := [.int 1]) (rest := []) (np := 1) hf hw (k_X8_takes l E _  1  (atp_X8_passes ((sp_X8_takes μ  0).2) (44 : Int32)  (atp_X8_takes μ 0  hh)).1 (atp_X8_passes ((sp_X8_takes μ  0).2) (44 : Int32)  (atp_X8_takes μ 0  hh)).2 (by omega)) ⟨gl_V q1002 q1003 q1004 q5 q1005, by decide +kernel⟩ ⟨rfl, rfl, Nat.le_of_ble_eq_true rfl, Nat.le_of_ble_eq_true rfl⟩ (by decide) (c_R E _) rfl rfl hl.1 rfl (Nat.le_of_ble_eq_true rfl) dX8_readsForm_112 ⟨Nat.zero_le _, Nat.zero_le _⟩) (fun H locs hw => ?_)
              refine lv_if_eq (tgt := 122) hx hb dX8_readsForm_115 (by decide) (fun c59 => ?_) (fun c59 => ?_)
              · refine lv_iconst (v := 0) hx hb dX8_readsForm_122 (by decide) ?_
                refine lv_istore_n (lv' := [(2, .int 0), (3, .int 0), (0, .ref (E.1 (232))), (1, .int (ch))]) hx hb dX8_readsForm_123 rfl hl (by decide) rfl (fun ls hl => ?_)
                refine lv_aload_n hx hb dX8_readsForm_124 rfl (lv_at hl 2 rfl) ?_
                refine g_f hw hf (by decide) (c_R E _) rfl inlX8 9 (by decide) rfl q95 rfl dX8_readsForm_125 ?_
                refine lv_iconst (v := 1) hx hb dX8_readsForm_128 (by decide) ?_
                refine lv_iload_n hx hb dX8_readsForm_129 rfl (lv_at hl 1 rfl) ?_
                refine lv_if_eq (tgt := 143) hx hb dX8_readsForm_130 (by decide) (fun _ => ?_) (fun c => absurd c (by decide))
                refine lv_aload_n hx hb dX8_readsForm_143 rfl (lv_at hl 2 rfl) ?_
                refine g_f hw hf (by decide) (c_R E _) rfl inlX8 9 (by decide) rfl q95 rfl dX8_readsForm_144 ?_
                refine lv_iconst (v := 1) hx hb dX8_readsForm_147 (by decide) ?_
                refine g_a hw hf (by decide) (c_Rg E _) (vp_lit 1 2 (by decide) (by decide)) (tr_at (y := 1) (by decide) (by decide)) dX8_readsForm_148 ?_
                refine p_a hw hf (by decide) (c_Rg E _) (vp_lit 1 2 (by decide) (by decide)) (by rw [show (1 : Int32).toNatClampNeg = 1 from (by decide)]; exact (s_Rg E _ (by decide) _)) dX8_readsForm_149 (fun H locs hw => ?_)
                refine lv_iload_n hx hb dX8_readsForm_150 rfl (lv_at hl 0 rfl) ?_
                refine lv_if_eq (tgt := 167) hx hb dX8_readsForm_151 (by decide) (fun _ => ?_) (fun c => absurd c (by decide))
                refine lv_iconst (v := 0) hx hb dX8_readsForm_167 (by decide) ?_
                exact e_i hf hr hlocks hw rfl ((if_neg c1).trans ((if_neg c10).trans ((if_neg c20).trans ((if_pos c46).trans ((if_neg c49).trans ((if_neg c53).trans ((if_pos c59).trans rfl))))))) dX8_readsForm_168
              · refine lv_iconst (v := 1) hx hb dX8_readsForm_118 (by decide) ?_
                refine lv_goto (tgt := 123) hx hb dX8_readsForm_119 (by decide) ?_
                refine lv_istore_n (lv' := [(2, .int 1), (3, .int 0), (0, .ref (E.1 (232))), (1, .int (ch))]) hx hb dX8_readsForm_123 rfl hl (by decide) rfl (fun ls hl => ?_)
                refine lv_aload_n hx hb dX8_readsForm_124 rfl (lv_at hl 2 rfl) ?_
                refine g_f hw hf (by decide) (c_R E _) rfl inlX8 9 (by decide) rfl q95 rfl dX8_readsForm_125 ?_
                refine lv_iconst (v := 1) hx hb dX8_readsForm_128 (by decide) ?_
                refine lv_iload_n hx hb dX8_readsForm_129 rfl (lv_at hl 1 rfl) ?_
                refine lv_if_eq (tgt := 143) hx hb dX8_readsForm_130 (by decide) (fun _ => ?_) (fun c => absurd c (by decide))
                refine lv_aload_n hx hb dX8_readsForm_143 rfl (lv_at hl 2 rfl) ?_
                refine g_f hw hf (by decide) (c_R E _) rfl inlX8 9 (by decide) rfl q95 rfl dX8_readsForm_144 ?_
                refine lv_iconst (v := 1) hx hb dX8_readsForm_147 (by decide) ?_
                refine g_a hw hf (by decide) (c_Rg E _) (vp_lit 1 2 (by decide) (by decide)) (tr_at (y := 1) (by decide) (by decide)) dX8_readsForm_148 ?_
                refine p_a hw hf (by decide) (c_Rg E _) (vp_lit 1 2 (by decide) (by decide)) (by rw [show (1 : Int32).toNatClampNeg = 1 from (by decide)]; exact (s_Rg E _ (by decide) _)) dX8_readsForm_149 (fun H locs hw => ?_)
                refine lv_iload_n hx hb dX8_readsForm_150 rfl (lv_at hl 0 rfl) ?_
                refine lv_if_eq (tgt := 167) hx hb dX8_readsForm_151 (by decide) (fun c => absurd c (by decide)) (fun _ => ?_)
                refine lv_aload_n hx hb dX8_readsForm_154 rfl (lv_at hl 2 rfl) ?_
                refine lv_bipush (v := 59) hx hb dX8_readsForm_155 (by decide) ?_
                refine c_i hw (run_V (As := [.int 59]) (rest := []) (np := 1) hf hw (k_X8_passes l E _  (59 : Int32)  (at_pM (by decide) (atp_X8_takes ((sp_X8_passes ((sp_X8_takes μ  0).2)  (44 : Int32)).2) 1  (atp_X8_passes ((sp_X8_takes μ  0).2) (44 : Int32)  (atp_X8_takes μ 0  hh)))).1 (at_pM (by decide) (atp_X8_takes ((sp_X8_passes ((sp_X8_takes μ  0).2)  (44 : Int32)).2) 1  (atp_X8_passes ((sp_X8_takes μ  0).2) (44 : Int32)  (atp_X8_takes μ 0  hh)))).2) ⟨gl_V q1006 q1007 q1008 q5 q1009, by decide +kernel⟩ ⟨rfl, rfl, Nat.le_of_ble_eq_true rfl, Nat.le_of_ble_eq_true rfl⟩ (by decide) (c_R E _) rfl rfl hl.1 rfl (Nat.le_of_ble_eq_true rfl) dX8_readsForm_157 ⟨Nat.zero_le _, Nat.zero_le _⟩) (fun H locs hw => ?_)
                refine lv_if_eq (tgt := 167) hx hb dX8_readsForm_160 (by decide) (fun c64 => ?_) (fun c64 => ?_)
                · refine lv_iconst (v := 0) hx hb dX8_readsForm_167 (by decide) ?_
                  exact e_i hf hr hlocks hw rfl ((if_neg c1).trans ((if_neg c10).trans ((if_neg c20).trans ((if_pos c46).trans ((if_neg c49).trans ((if_neg c53).trans ((if_neg c59).trans ((if_pos c64).trans rfl)))))))) dX8_readsForm_168
                · refine lv_iconst (v := 1) hx hb dX8_readsForm_163 (by decide) ?_
                  refine lv_goto (tgt := 168) hx hb dX8_readsForm_164 (by decide) ?_
                  exact e_i hf hr hlocks hw rfl ((if_neg c1).trans ((if_neg c10).trans ((if_neg c20).trans ((if_pos c46).trans ((if_neg c49).trans ((if_neg c53).trans ((if_neg c59).trans ((if_neg c64).trans rfl)))))))) dX8_readsForm_168
        · refine lv_iload_n hx hb dX8_readsForm_24 rfl (lv_at hl 1 rfl) ?_
          refine lv_bipush (v := 109) hx hb dX8_readsForm_25 (by decide) ?_
          refine lv_icmp_ne (tgt := 34) hx hb dX8_readsForm_27 (by decide) (fun c65 => ?_) (fun c65 => ?_)
          · refine lv_iconst (v := 0) hx hb dX8_readsForm_34 (by decide) ?_
            refine lv_istore_n (lv' := [(2, .int 0), (0, .ref (E.1 (232))), (1, .int (ch))]) hx hb dX8_readsForm_35 rfl hl (by decide) rfl (fun ls hl => ?_)
            refine lv_iload_n hx hb dX8_readsForm_36 rfl (lv_at hl 0 rfl) ?_
            refine lv_if_eq (tgt := 52) hx hb dX8_readsForm_37 (by decide) (fun _ => ?_) (fun c => absurd c (by decide))
            refine lv_iload_n hx hb dX8_readsForm_52 rfl (lv_at hl 0 rfl) ?_
            refine lv_if_eq (tgt := 150) hx hb dX8_readsForm_53 (by decide) (fun _ => ?_) (fun c => absurd c (by decide))
            refine lv_iload_n hx hb dX8_readsForm_150 rfl (lv_at hl 0 rfl) ?_
            refine lv_if_eq (tgt := 167) hx hb dX8_readsForm_151 (by decide) (fun _ => ?_) (fun c => absurd c (by decide))
            refine lv_iconst (v := 0) hx hb dX8_readsForm_167 (by decide) ?_
            exact e_i hf hr hlocks hw rfl ((if_neg c1).trans ((if_neg c10).trans ((if_neg c20).trans ((if_neg c46).trans ((if_neg c65).trans rfl))))) dX8_readsForm_168
          · refine lv_iconst (v := 1) hx hb dX8_readsForm_30 (by decide) ?_
            refine lv_goto (tgt := 35) hx hb dX8_readsForm_31 (by decide) ?_
            refine lv_istore_n (lv' := [(2, .int 1), (0, .ref (E.1 (232))), (1, .int (ch))]) hx hb dX8_readsForm_35 rfl hl (by decide) rfl (fun ls hl => ?_)
            refine lv_iload_n hx hb dX8_readsForm_36 rfl (lv_at hl 0 rfl) ?_
            refine lv_if_eq (tgt := 52) hx hb dX8_readsForm_37 (by decide) (fun c => absurd c (by decide)) (fun _ => ?_)
            refine lv_iload_n hx hb dX8_readsForm_40 rfl (lv_at hl 2 rfl) ?_
            refine lv_bipush (v := 115) hx hb dX8_readsForm_41 (by decide) ?_
            refine lv_icmp_eq (tgt := 52) hx hb dX8_readsForm_43 (by decide) (fun c => absurd (Eq.trans (Eq.symm c65) c) (by decide)) (fun _ => ?_)
            refine lv_aload_n hx hb dX8_readsForm_46 rfl (lv_at hl 1 rfl) ?_
            refine lv_iconst (v := 0) hx hb dX8_readsForm_47 (by decide) ?_
            refine c_i hw (run_V (As := [.int 0]) (rest := []) (np := 1) hf hw (k_X8_takes l E _  0  hh.1 hh.2 (by omega)) ⟨gl_V q1002 q1003 q1004 q5 q1005, by decide +kernel⟩ ⟨rfl, rfl, Nat.le_of_ble_eq_true rfl, Nat.le_of_ble_eq_true rfl⟩ (by decide) (c_R E _) rfl rfl hl.1 rfl (Nat.le_of_ble_eq_true rfl) dX8_readsForm_48 ⟨Nat.zero_le _, Nat.zero_le _⟩) (fun H locs hw => ?_)
            refine lv_istore_n (lv' := [(2, .int ((sp_X8_takes μ  0).1)), (0, .ref (E.1 (232))), (1, .int (ch))]) hx hb dX8_readsForm_51 rfl hl (by decide) rfl (fun ls hl => ?_)
            refine lv_iload_n hx hb dX8_readsForm_52 rfl (lv_at hl 0 rfl) ?_
            refine lv_if_eq (tgt := 150) hx hb dX8_readsForm_53 (by decide) (fun c71 => ?_) (fun c71 => ?_)
            · refine lv_iload_n hx hb dX8_readsForm_150 rfl (lv_at hl 0 rfl) ?_
              refine lv_if_eq (tgt := 167) hx hb dX8_readsForm_151 (by decide) (fun _ => ?_) (fun c => absurd c71 c)
              refine lv_iconst (v := 0) hx hb dX8_readsForm_167 (by decide) ?_
              exact e_i hf hr hlocks hw rfl ((if_neg c1).trans ((if_neg c10).trans ((if_neg c20).trans ((if_neg c46).trans ((if_pos c65).trans ((if_pos c71).trans rfl)))))) dX8_readsForm_168
            · refine lv_iload_n hx hb dX8_readsForm_56 rfl (lv_at hl 2 rfl) ?_
              refine lv_bipush (v := 116) hx hb dX8_readsForm_57 (by decide) ?_
              refine lv_icmp_eq (tgt := 74) hx hb dX8_readsForm_59 (by decide) (fun c => absurd (Eq.trans (Eq.symm c65) c) (by decide)) (fun _ => ?_)
              refine lv_iload_n hx hb dX8_readsForm_62 rfl (lv_at hl 2 rfl) ?_
              refine lv_bipush (v := 98) hx hb dX8_readsForm_63 (by decide) ?_
              refine lv_icmp_eq (tgt := 74) hx hb dX8_readsForm_65 (by decide) (fun c => absurd (Eq.trans (Eq.symm c65) c) (by decide)) (fun _ => ?_)
              refine lv_iload_n hx hb dX8_readsForm_68 rfl (lv_at hl 2 rfl) ?_
              refine lv_bipush (v := 109) hx hb dX8_readsForm_69 (by decide) ?_
              refine lv_icmp_ne (tgt := 150) hx hb dX8_readsForm_71 (by decide) (fun c => absurd c65 c) (fun _ => ?_)
              refine lv_aload_n hx hb dX8_readsForm_74 rfl (lv_at hl 1 rfl) ?_
              refine lv_bipush (v := 44) hx hb dX8_readsForm_75 (by decide) ?_
              refine c_i hw (run_V (As := [.int 44]) (rest := []) (np := 1) hf hw (k_X8_passes l E _  (44 : Int32)  (atp_X8_takes μ 0  hh).1 (atp_X8_takes μ 0  hh).2) ⟨gl_V q1006 q1007 q1008 q5 q1009, by decide +kernel⟩ ⟨rfl, rfl, Nat.le_of_ble_eq_true rfl, Nat.le_of_ble_eq_true rfl⟩ (by decide) (c_R E _) rfl rfl hl.1 rfl (Nat.le_of_ble_eq_true rfl) dX8_readsForm_77 ⟨Nat.zero_le _, Nat.zero_le _⟩) (fun H locs hw => ?_)
              refine lv_istore_n (lv' := [(2, .int ((sp_X8_passes ((sp_X8_takes μ  0).2)  (44 : Int32)).1)), (0, .ref (E.1 (232))), (1, .int (ch))]) hx hb dX8_readsForm_80 rfl hl (by decide) rfl (fun ls hl => ?_)
              refine lv_iload_n hx hb dX8_readsForm_81 rfl (lv_at hl 0 rfl) ?_
              refine lv_if_eq (tgt := 104) hx hb dX8_readsForm_82 (by decide) (fun c76 => ?_) (fun c76 => ?_)
              · refine lv_iconst (v := 0) hx hb dX8_readsForm_104 (by decide) ?_
                refine lv_istore_n (lv' := [(3, .int 0), (2, .int ((sp_X8_passes ((sp_X8_takes μ  0).2)  (44 : Int32)).1)), (0, .ref (E.1 (232))), (1, .int (ch))]) hx hb dX8_readsForm_105 rfl hl (by decide) rfl (fun ls hl => ?_)
                refine lv_iload_n hx hb dX8_readsForm_106 rfl (lv_at hl 1 rfl) ?_
                refine lv_if_eq (tgt := 122) hx hb dX8_readsForm_107 (by decide) (fun _ => ?_) (fun c => absurd c76 c)
                refine lv_iconst (v := 0) hx hb dX8_readsForm_122 (by decide) ?_
                refine lv_istore_n (lv' := [(2, .int 0), (3, .int 0), (0, .ref (E.1 (232))), (1, .int (ch))]) hx hb dX8_readsForm_123 rfl hl (by decide) rfl (fun ls hl => ?_)
                refine lv_aload_n hx hb dX8_readsForm_124 rfl (lv_at hl 2 rfl) ?_
                refine g_f hw hf (by decide) (c_R E _) rfl inlX8 9 (by decide) rfl q95 rfl dX8_readsForm_125 ?_
                refine lv_iconst (v := 1) hx hb dX8_readsForm_128 (by decide) ?_
                refine lv_iload_n hx hb dX8_readsForm_129 rfl (lv_at hl 1 rfl) ?_
                refine lv_if_eq (tgt := 143) hx hb dX8_readsForm_130 (by decide) (fun _ => ?_) (fun c => absurd c (by decide))
                refine lv_aload_n hx hb dX8_readsForm_143 rfl (lv_at hl 2 rfl) ?_
                refine g_f hw hf (by decide) (c_R E _) rfl inlX8 9 (by decide) rfl q95 rfl dX8_readsForm_144 ?_
                refine lv_iconst (v := 1) hx hb dX8_readsForm_147 (by decide) ?_
                refine g_a hw hf (by decide) (c_Rg E _) (vp_lit 1 2 (by decide) (by decide)) (tr_at (y := 1) (by decide) (by decide)) dX8_readsForm_148 ?_
                refine p_a hw hf (by decide) (c_Rg E _) (vp_lit 1 2 (by decide) (by decide)) (by rw [show (1 : Int32).toNatClampNeg = 1 from (by decide)]; exact (s_Rg E _ (by decide) _)) dX8_readsForm_149 (fun H locs hw => ?_)
                refine lv_iload_n hx hb dX8_readsForm_150 rfl (lv_at hl 0 rfl) ?_
                refine lv_if_eq (tgt := 167) hx hb dX8_readsForm_151 (by decide) (fun _ => ?_) (fun c => absurd c (by decide))
                refine lv_iconst (v := 0) hx hb dX8_readsForm_167 (by decide) ?_
                exact e_i hf hr hlocks hw rfl ((if_neg c1).trans ((if_neg c10).trans ((if_neg c20).trans ((if_neg c46).trans ((if_pos c65).trans ((if_neg c71).trans ((if_pos c76).trans rfl))))))) dX8_readsForm_168
              · refine lv_iload_n hx hb dX8_readsForm_85 rfl (lv_at hl 2 rfl) ?_
                refine lv_bipush (v := 116) hx hb dX8_readsForm_86 (by decide) ?_
                refine lv_icmp_ne (tgt := 104) hx hb dX8_readsForm_88 (by decide) (fun _ => ?_) (fun c => absurd (Eq.trans (Eq.symm c65) c) (by decide))
                refine lv_iconst (v := 0) hx hb dX8_readsForm_104 (by decide) ?_
                refine lv_istore_n (lv' := [(3, .int 0), (2, .int ((sp_X8_passes ((sp_X8_takes μ  0).2)  (44 : Int32)).1)), (0, .ref (E.1 (232))), (1, .int (ch))]) hx hb dX8_readsForm_105 rfl hl (by decide) rfl (fun ls hl => ?_)
                refine lv_iload_n hx hb dX8_readsForm_106 rfl (lv_at hl 1 rfl) ?_
                refine lv_if_eq (tgt := 122) hx hb dX8_readsForm_107 (by decide) (fun c => absurd c c76) (fun _ => ?_)
                refine lv_aload_n hx hb dX8_readsForm_110 rfl (lv_at hl 2 rfl) ?_
                refine lv_iconst (v := 1) hx hb dX8_readsForm_111 (by decide) ?_
                refine c_i hw (run_V (As := [.int 1]) (rest := []) (np := 1) hf hw (k_X8_takes l E _  1  (atp_X8_passes ((sp_X8_takes μ  0).2) (44 : Int32)  (atp_X8_takes μ 0  hh)).1 (atp_X8_passes ((sp_X8_takes μ  0).2) (44 : Int32)  (atp_X8_takes μ 0  hh)).2 (by omega)) ⟨gl_V q1002 q1003 q1004 q5 q1005, by decide +kernel⟩ ⟨rfl, rfl, Nat.le_of_ble_eq_true rfl, Nat.le_of_ble_eq_true rfl⟩ (by decide) (c_R E _) rfl rfl hl.1 rfl (Nat.le_of_ble_eq_true rfl) dX8_readsForm_112 ⟨Nat.zero_le _, Nat.zero_le _⟩) (fun H locs hw => ?_)
                refine lv_if_eq (tgt := 122) hx hb dX8_readsForm_115 (by decide) (fun c82 => ?_) (fun c82 => ?_)
                · refine lv_iconst (v := 0) hx hb dX8_readsForm_122 (by decide) ?_
                  refine lv_istore_n (lv' := [(2, .int 0), (3, .int 0), (0, .ref (E.1 (232))), (1, .int (ch))]) hx hb dX8_readsForm_123 rfl hl (by decide) rfl (fun ls hl => ?_)
                  refine lv_aload_n hx hb dX8_readsForm_124 rfl (lv_at hl 2 rfl) ?_
                  refine g_f hw hf (by decide) (c_R E _) rfl inlX8 9 (by decide) rfl q95 rfl dX8_readsForm_125 ?_
                  refine lv_iconst (v := 1) hx hb dX8_readsForm_128 (by decide) ?_
                  refine lv_iload_n hx hb dX8_readsForm_129 rfl (lv_at hl 1 rfl) ?_
                  refine lv_if_eq (tgt := 143) hx hb dX8_readsForm_130 (by decide) (fun _ => ?_) (fun c => absurd c (by decide))
                  refine lv_aload_n hx hb dX8_readsForm_143 rfl (lv_at hl 2 rfl) ?_
                  refine g_f hw hf (by decide) (c_R E _) rfl inlX8 9 (by decide) rfl q95 rfl dX8_readsForm_144 ?_
                  refine lv_iconst (v := 1) hx hb dX8_readsForm_147 (by decide) ?_
                  refine g_a hw hf (by decide) (c_Rg E _) (vp_lit 1 2 (by decide) (by decide)) (tr_at (y := 1) (by decide) (by decide)) dX8_readsForm_148 ?_
                  refine p_a hw hf (by decide) (c_Rg E _) (vp_lit 1 2 (by decide) (by decide)) (by rw [show (1 : Int32).toNatClampNeg = 1 from (by decide)]; exact (s_Rg E _ (by decide) _)) dX8_readsForm_149 (fun H locs hw => ?_)
                  refine lv_iload_n hx hb dX8_readsForm_150 rfl (lv_at hl 0 rfl) ?_
                  refine lv_if_eq (tgt := 167) hx hb dX8_readsForm_151 (by decide) (fun _ => ?_) (fun c => absurd c (by decide))
                  refine lv_iconst (v := 0) hx hb dX8_readsForm_167 (by decide) ?_
                  exact e_i hf hr hlocks hw rfl ((if_neg c1).trans ((if_neg c10).trans ((if_neg c20).trans ((if_neg c46).trans ((if_pos c65).trans ((if_neg c71).trans ((if_neg c76).trans ((if_pos c82).trans rfl)))))))) dX8_readsForm_168
                · refine lv_iconst (v := 1) hx hb dX8_readsForm_118 (by decide) ?_
                  refine lv_goto (tgt := 123) hx hb dX8_readsForm_119 (by decide) ?_
                  refine lv_istore_n (lv' := [(2, .int 1), (3, .int 0), (0, .ref (E.1 (232))), (1, .int (ch))]) hx hb dX8_readsForm_123 rfl hl (by decide) rfl (fun ls hl => ?_)
                  refine lv_aload_n hx hb dX8_readsForm_124 rfl (lv_at hl 2 rfl) ?_
                  refine g_f hw hf (by decide) (c_R E _) rfl inlX8 9 (by decide) rfl q95 rfl dX8_readsForm_125 ?_
                  refine lv_iconst (v := 1) hx hb dX8_readsForm_128 (by decide) ?_
                  refine lv_iload_n hx hb dX8_readsForm_129 rfl (lv_at hl 1 rfl) ?_
                  refine lv_if_eq (tgt := 143) hx hb dX8_readsForm_130 (by decide) (fun _ => ?_) (fun c => absurd c (by decide))
                  refine lv_aload_n hx hb dX8_readsForm_143 rfl (lv_at hl 2 rfl) ?_
                  refine g_f hw hf (by decide) (c_R E _) rfl inlX8 9 (by decide) rfl q95 rfl dX8_readsForm_144 ?_
                  refine lv_iconst (v := 1) hx hb dX8_readsForm_147 (by decide) ?_
                  refine g_a hw hf (by decide) (c_Rg E _) (vp_lit 1 2 (by decide) (by decide)) (tr_at (y := 1) (by decide) (by decide)) dX8_readsForm_148 ?_
                  refine p_a hw hf (by decide) (c_Rg E _) (vp_lit 1 2 (by decide) (by decide)) (by rw [show (1 : Int32).toNatClampNeg = 1 from (by decide)]; exact (s_Rg E _ (by decide) _)) dX8_readsForm_149 (fun H locs hw => ?_)
                  refine lv_iload_n hx hb dX8_readsForm_150 rfl (lv_at hl 0 rfl) ?_
                  refine lv_if_eq (tgt := 167) hx hb dX8_readsForm_151 (by decide) (fun c => absurd c (by decide)) (fun _ => ?_)
                  refine lv_aload_n hx hb dX8_readsForm_154 rfl (lv_at hl 2 rfl) ?_
                  refine lv_bipush (v := 59) hx hb dX8_readsForm_155 (by decide) ?_
                  refine c_i hw (run_V (As := [.int 59]) (rest := []) (np := 1) hf hw (k_X8_passes l E _  (59 : Int32)  (at_pM (by decide) (atp_X8_takes ((sp_X8_passes ((sp_X8_takes μ  0).2)  (44 : Int32)).2) 1  (atp_X8_passes ((sp_X8_takes μ  0).2) (44 : Int32)  (atp_X8_takes μ 0  hh)))).1 (at_pM (by decide) (atp_X8_takes ((sp_X8_passes ((sp_X8_takes μ  0).2)  (44 : Int32)).2) 1  (atp_X8_passes ((sp_X8_takes μ  0).2) (44 : Int32)  (atp_X8_takes μ 0  hh)))).2) ⟨gl_V q1006 q1007 q1008 q5 q1009, by decide +kernel⟩ ⟨rfl, rfl, Nat.le_of_ble_eq_true rfl, Nat.le_of_ble_eq_true rfl⟩ (by decide) (c_R E _) rfl rfl hl.1 rfl (Nat.le_of_ble_eq_true rfl) dX8_readsForm_157 ⟨Nat.zero_le _, Nat.zero_le _⟩) (fun H locs hw => ?_)
                  refine lv_if_eq (tgt := 167) hx hb dX8_readsForm_160 (by decide) (fun c87 => ?_) (fun c87 => ?_)
                  · refine lv_iconst (v := 0) hx hb dX8_readsForm_167 (by decide) ?_
                    exact e_i hf hr hlocks hw rfl ((if_neg c1).trans ((if_neg c10).trans ((if_neg c20).trans ((if_neg c46).trans ((if_pos c65).trans ((if_neg c71).trans ((if_neg c76).trans ((if_neg c82).trans ((if_pos c87).trans rfl))))))))) dX8_readsForm_168
                  · refine lv_iconst (v := 1) hx hb dX8_readsForm_163 (by decide) ?_
                    refine lv_goto (tgt := 168) hx hb dX8_readsForm_164 (by decide) ?_
                    exact e_i hf hr hlocks hw rfl ((if_neg c1).trans ((if_neg c10).trans ((if_neg c20).trans ((if_neg c46).trans ((if_pos c65).trans ((if_neg c71).trans ((if_neg c76).trans ((if_neg c82).trans ((if_neg c87).trans rfl))))))))) dX8_readsForm_168
