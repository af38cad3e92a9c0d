theorem ni_less {x : Int32} (h : ni 5 x) (c : ¬ x.toNatClampNeg = 4) : ni 4 x := ⟨h.1, by have := h.2; omega⟩
theorem ni_dec4 {m : Mu} (h : ni 5 (m.1 7 0) ∧ (m.1 7 0).toNatClampNeg = 4) {v : Int32} (hv : v = nI ((m.1 7 0).toNatClampNeg - 1)) : ni 4 ((pM m 7 0 v).1 7 0) := by
  have e : (pM m 7 0 v).1 7 0 = v := by simp [pM, upM]
  rw [e, hv, h.2]
  exact ⟨by decide, by decide⟩
def lp_X8_acted_57 (μ : Mu)  (w : Int32) : Nat → Nat → Mu → Int32 × Mu
  | 0, _, μ1 => (0, μ1)
  | f + 1, k, μ1 =>
    if (259 : Int32) ≤ nI k then
      (w, pM μ1 7 0 (nI (((μ1).1 7 0).toNatClampNeg + 1)))
    else
      lp_X8_acted_57 μ w f (k + 1) (pM μ1 9 (259 * (((μ1).1 7 0).toNatClampNeg) + k) ((μ1).1 11 k))
def lp_X8_acted_16 (μ : Mu)  (w : Int32) : Nat → Nat → Mu → Int32 × Mu
  | 0, _, μ1 => (0, μ1)
  | f + 1, k, μ1 =>
    if (777 : Int32) ≤ nI k then
      lp_X8_acted_57 μ w 260 0 (pM μ1 7 0 (nI (((μ1).1 7 0).toNatClampNeg - 1)))
    else
      lp_X8_acted_16 μ w f (k + 1) (pM μ1 9 k ((μ1).1 9 (k + 259)))
def sp_X8_acted (μ : Mu)  (w : Int32) : Int32 × Mu :=
  if (w : Int32) ≤ (-2000000001) then
    (w, μ)
  else
    if (nI ((μ.1 7 0).toNatClampNeg) : Int32) = 4 then
      lp_X8_acted_16 μ w 778 0 μ
    else
      lp_X8_acted_57 μ w 260 0 μ
set_option maxHeartbeats 4000000 in
set_option maxRecDepth 100000 in
theorem k_X8_acted (l : Launch) (E : En) (μ : Mu)  (w : Int32) (hst : ni 5 (μ.1 7 0)) : MtI l yX8_acted cX8_acted 3 .int ({ frames := 0, cells := 0, slots := 0, locals := 0 }) [.ref (E.1 (232)), .int (w)] E μ (sp_X8_acted μ w) := by
  refine mt_of (by decide +kernel) (Nat.le_of_ble_eq_true rfl) ?_
  intro p e s m args below meth c ls hf hr hlocks hl hw
  have hx := hf.1
  have hb := hf.2.1
  have hl : lv_has ls 3 [(0, .ref (E.1 (232))), (1, .int (w))] := hl
  have hstb := hst.2
  refine lv_iload_n hx hb dX8_acted_0 rfl (lv_at hl 1 rfl) ?_
  refine lv_ldc hx hb hf.2.2.2.1 (hf.2.2.2.2 _ q154) dX8_acted_1 ?_
  refine lv_icmp_le (tgt := 101) hx hb dX8_acted_3 (by decide) (fun c1 => ?_) (fun c1 => ?_)
  · refine lv_iload_n hx hb dX8_acted_101 rfl (lv_at hl 1 rfl) ?_
    exact e_i hf hr hlocks hw rfl ((if_pos c1).trans rfl) dX8_acted_102
  · refine lv_aload_n hx hb dX8_acted_6 rfl (lv_at hl 0 rfl) ?_
    refine g_f hw hf (by decide) (c_R E _) rfl inlX8 4 (by decide) rfl q155 rfl dX8_acted_7 ?_
    have hb2 := hst.2
    refine fold_i (show μ.1 7 0 = nI ((μ.1 7 0).toNatClampNeg) from hst.1) ?_
    refine lv_iconst (v := 4) hx hb dX8_acted_10 (by decide) ?_
    refine lv_icmp_ne (tgt := 55) hx hb dX8_acted_11 (by decide) (fun c3 => ?_) (fun c3 => ?_)
    · have c3n : ¬ ((μ.1 7 0).toNatClampNeg) = 4 := by have q := (nI_eq (a := ((μ.1 7 0).toNatClampNeg)) (b := 4) (by omega) (by omega)); first | exact q.mp c3 | exact fun z => c3 (q.mpr z)
      refine lv_iconst (v := 0) hx hb dX8_acted_55 (by decide) ?_
      refine lv_istore_n (lv' := [(2, .int 0), (0, .ref (E.1 (232))), (1, .int (w))]) hx hb dX8_acted_56 rfl hl (by decide) rfl (fun ls hl => ?_)
      have key_57 : ∀ (f : Nat) (k : Nat) (μ1 : Mu), k + f = 260 → k ≤ 259 → ni 4 (μ1.1 7 0) → sp_X8_acted μ w = lp_X8_acted_57 μ w f k μ1 → ∀ (ls : Array Slot) (H : Heap) (locs : List Loc), lv_has ls 3 [(0, .ref (E.1 (232))), (1, .int (w)), (2, .int (nI k))] → Wk E μ1 s H locs → W p l e ({ frames := 0, cells := 0, slots := 0, locals := 0 }) s m args below meth c H locs 0 0 (MQ below (va_Qi (fun r u => r = ((sp_X8_acted μ w)).1 ∧ u = ((sp_X8_acted μ w)).2) (fun u t => WdU E u t) (inE E)) args s 0 0 (inE E)) (F0 m 57 ls []) := by
        intro f
        induction f with
        | zero => intro k μ1 h1 h2 h3 hq ls H locs hl hw; exfalso; omega
        | succ f ih =>
          intro k μ1 h1 h2 h3 hq ls H locs hl hw
          have h3b := h3.2
          refine lv_iload_n hx hb dX8_acted_57 rfl (lv_at hl 2 rfl) ?_
          refine lv_sipush (v := 259) hx hb dX8_acted_58 (by decide) ?_
          refine lv_icmp_ge (tgt := 91) hx hb dX8_acted_61 (by decide) (fun c4 => ?_) (fun c4 => ?_)
          · have c4n : 259 ≤ k := by have q := (nI_leI (a := 259) (b := k) (by omega) (by omega)); first | exact q.mp c4 | exact fun z => c4 (q.mpr z)
            refine lv_aload_n hx hb dX8_acted_91 rfl (lv_at hl 0 rfl) ?_
            refine lv_dup hx hb dX8_acted_92 rfl ?_
            refine g_f hw hf (by decide) (c_R E _) rfl inlX8 4 (by decide) rfl q155 rfl dX8_acted_93 ?_
            have hb5 := h3.2
            refine fold_i (show (μ1).1 7 0 = nI (((μ1).1 7 0).toNatClampNeg) from h3.1) ?_
            refine lv_iconst (v := 1) hx hb dX8_acted_96 (by decide) ?_
            refine lv_iadd hx hb dX8_acted_97 ?_
            refine fold_i (show nI (((μ1).1 7 0).toNatClampNeg) + (1 : Int32) = nI (((μ1).1 7 0).toNatClampNeg + 1) from nI_add (((μ1).1 7 0).toNatClampNeg) (1)) ?_
            refine p_f hw hf (by decide) (c_R E _) rfl inlX8 tyX8_ok nmX8 4 (by decide) rfl q155 rfl rfl rfl (Nat.le_of_ble_eq_true rfl) (s_R_4 E _ _) dX8_acted_98 (fun H locs hw => ?_)
            refine lv_iload_n hx hb dX8_acted_101 rfl (lv_at hl 1 rfl) ?_
            exact e_i hf hr hlocks hw rfl ((hq).trans ((if_pos c4).trans rfl)) dX8_acted_102
          · have c4n : ¬ 259 ≤ k := by have q := (nI_leI (a := 259) (b := k) (by omega) (by omega)); first | exact q.mp c4 | exact fun z => c4 (q.mpr z)
            refine lv_aload_n hx hb dX8_acted_64 rfl (lv_at hl 0 rfl) ?_
            refine g_f hw hf (by decide) (c_R E _) rfl inlX8 1 (by decide) rfl q91 rfl dX8_acted_65 ?_
            refine lv_sipush (v := 259) hx hb dX8_acted_68 (by decide) ?_
            refine lv_aload_n hx hb dX8_acted_71 rfl (lv_at hl 0 rfl) ?_
            refine g_f hw hf (by decide) (c_R E _) rfl inlX8 4 (by decide) rfl q155 rfl dX8_acted_72 ?_
            have hb6 := h3.2
            refine fold_i (show (μ1).1 7 0 = nI (((μ1).1 7 0).toNatClampNeg) from h3.1) ?_
            refine lv_imul hx hb dX8_acted_75 ?_
            refine fold_i (show (259 : Int32) * nI (((μ1).1 7 0).toNatClampNeg) = nI (259 * (((μ1).1 7 0).toNatClampNeg)) from pk_mul (259) (((μ1).1 7 0).toNatClampNeg)) ?_
            refine lv_iload_n hx hb dX8_acted_76 rfl (lv_at hl 2 rfl) ?_
            refine lv_iadd hx hb dX8_acted_77 ?_
            refine fold_i (show nI (259 * (((μ1).1 7 0).toNatClampNeg)) + nI k = nI (259 * (((μ1).1 7 0).toNatClampNeg) + k) from nI_add (259 * (((μ1).1 7 0).toNatClampNeg)) (k)) ?_
            refine lv_aload_n hx hb dX8_acted_78 rfl (lv_at hl 0 rfl) ?_
            refine g_f hw hf (by decide) (c_R E _) rfl inlX8 3 (by decide) rfl q93 rfl dX8_acted_79 ?_
            refine lv_iload_n hx hb dX8_acted_82 rfl (lv_at hl 2 rfl) ?_
            refine g_a hw hf (by decide) (c_Rb E _) (vp_in_nI (show k < 259 from (by omega)) (by decide)) (tr_at (y := k) (by omega) (nI_clamp (Nat.lt_trans (show k < 259 from (by omega)) (by decide)))) dX8_acted_83 ?_
            refine p_a hw hf (by decide) (c_Rw E _) (vp_in_nI (show 259 * (((μ1).1 7 0).toNatClampNeg) + k < 1036 from (by omega)) (by decide)) (by rw [show (nI (259 * (((μ1).1 7 0).toNatClampNeg) + k)).toNatClampNeg = 259 * (((μ1).1 7 0).toNatClampNeg) + k from (nI_clamp (Nat.lt_trans (show 259 * (((μ1).1 7 0).toNatClampNeg) + k < 1036 from (by omega)) (by decide)))]; exact (s_Rw E _ (by omega) _)) dX8_acted_84 (fun H locs hw => ?_)
            refine lv_iinc (v := nI (k + 1)) (lv' := [(2, .int (nI (k + 1))), (0, .ref (E.1 (232))), (1, .int (w))]) hx hb dX8_acted_85 hl (k := 2) rfl (nI_1 _) (by decide) rfl (fun ls hl => ?_)
            refine lv_goto (tgt := 57) hx hb dX8_acted_88 (by decide) ?_
            exact ih (k + 1) (pM μ1 9 (259 * (((μ1).1 7 0).toNatClampNeg) + k) ((μ1).1 11 k)) (by omega) (by omega) (by rw [pM_row (by decide)]; exact h3) (((hq).trans ((if_neg c4).trans rfl))) _ _ _ (lv_sub hl [1, 2, 0] rfl) hw
      exact key_57 260 0 μ (by omega) (by omega) (ni_less hst c3n) (((if_neg c1).trans ((if_neg c3).trans rfl))) _ _ _ (lv_sub hl [1, 2, 0] rfl) hw
    · have c3n : ((μ.1 7 0).toNatClampNeg) = 4 := by have q := (nI_eq (a := ((μ.1 7 0).toNatClampNeg)) (b := 4) (by omega) (by omega)); first | exact q.mp c3 | exact fun z => c3 (q.mpr z)
      refine lv_iconst (v := 0) hx hb dX8_acted_14 (by decide) ?_
      refine lv_istore_n (lv' := [(2, .int 0), (0, .ref (E.1 (232))), (1, .int (w))]) hx hb dX8_acted_15 rfl hl (by decide) rfl (fun ls hl => ?_)
      have key_16 : ∀ (f : Nat) (k : Nat) (μ1 : Mu), k + f = 778 → k ≤ 777 → ni 5 (μ1.1 7 0) ∧ (μ1.1 7 0).toNatClampNeg = 4 → sp_X8_acted μ w = lp_X8_acted_16 μ w f k μ1 → ∀ (ls : Array Slot) (H : Heap) (locs : List Loc), lv_has ls 3 [(0, .ref (E.1 (232))), (1, .int (w)), (2, .int (nI k))] → Wk E μ1 s H locs → W p l e ({ frames := 0, cells := 0, slots := 0, locals := 0 }) s m args below meth c H locs 0 0 (MQ below (va_Qi (fun r u => r = ((sp_X8_acted μ w)).1 ∧ u = ((sp_X8_acted μ w)).2) (fun u t => WdU E u t) (inE E)) args s 0 0 (inE E)) (F0 m 16 ls []) := by
        intro f
        induction f with
        | zero => intro k μ1 h1 h2 h3 hq ls H locs hl hw; exfalso; omega
        | succ f ih =>
          intro k μ1 h1 h2 h3 hq ls H locs hl hw
          refine lv_iload_n hx hb dX8_acted_16 rfl (lv_at hl 2 rfl) ?_
          refine lv_sipush (v := 777) hx hb dX8_acted_17 (by decide) ?_
          refine lv_icmp_ge (tgt := 45) hx hb dX8_acted_20 (by decide) (fun c7 => ?_) (fun c7 => ?_)
          · have c7n : 777 ≤ k := by have q := (nI_leI (a := 777) (b := k) (by omega) (by omega)); first | exact q.mp c7 | exact fun z => c7 (q.mpr z)
            refine lv_aload_n hx hb dX8_acted_45 rfl (lv_at hl 0 rfl) ?_
            refine lv_dup hx hb dX8_acted_46 rfl ?_
            refine g_f hw hf (by decide) (c_R E _) rfl inlX8 4 (by decide) rfl q155 rfl dX8_acted_47 ?_
            have hb8 := h3.1.2
            refine fold_i (show (μ1).1 7 0 = nI (((μ1).1 7 0).toNatClampNeg) from h3.1.1) ?_
            refine lv_iconst (v := 1) hx hb dX8_acted_50 (by decide) ?_
            refine lv_isub hx hb dX8_acted_51 ?_
            refine fold_i (show nI (((μ1).1 7 0).toNatClampNeg) - 1 = nI (((μ1).1 7 0).toNatClampNeg - 1) from pk_sub (a := ((μ1).1 7 0).toNatClampNeg) (b := 1) (by omega)) ?_
            refine p_f hw hf (by decide) (c_R E _) rfl inlX8 tyX8_ok nmX8 4 (by decide) rfl q155 rfl rfl rfl (Nat.le_of_ble_eq_true rfl) (s_R_4 E _ _) dX8_acted_52 (fun H locs hw => ?_)
            refine lv_iconst (v := 0) hx hb dX8_acted_55 (by decide) ?_
            refine lv_istore_n (lv' := [(2, .int 0), (0, .ref (E.1 (232))), (1, .int (w))]) hx hb dX8_acted_56 rfl hl (by decide) rfl (fun ls hl => ?_)
            have key_57 : ∀ (f : Nat) (k : Nat) (μ1 : Mu), k + f = 260 → k ≤ 259 → ni 4 (μ1.1 7 0) → sp_X8_acted μ w = lp_X8_acted_57 μ w f k μ1 → ∀ (ls : Array Slot) (H : Heap) (locs : List Loc), lv_has ls 3 [(0, .ref (E.1 (232))), (1, .int (w)), (2, .int (nI k))] → Wk E μ1 s H locs → W p l e ({ frames := 0, cells := 0, slots := 0, locals := 0 }) s m args below meth c H locs 0 0 (MQ below (va_Qi (fun r u => r = ((sp_X8_acted μ w)).1 ∧ u = ((sp_X8_acted μ w)).2) (fun u t => WdU E u t) (inE E)) args s 0 0 (inE E)) (F0 m 57 ls []) := by
              intro f
              induction f with
              | zero => intro k μ1 h1 h2 h3 hq ls H locs hl hw; exfalso; omega
              | succ f ih =>
                intro k μ1 h1 h2 h3 hq ls H locs hl hw
                have h3b := h3.2
                refine lv_iload_n hx hb dX8_acted_57 rfl (lv_at hl 2 rfl) ?_
                refine lv_sipush (v := 259) hx hb dX8_acted_58 (by decide) ?_
                refine lv_icmp_ge (tgt := 91) hx hb dX8_acted_61 (by decide) (fun c9 => ?_) (fun c9 => ?_)
                · have c9n : 259 ≤ k := by have q := (nI_leI (a := 259) (b := k) (by omega) (by omega)); first | exact q.mp c9 | exact fun z => c9 (q.mpr z)
                  refine lv_aload_n hx hb dX8_acted_91 rfl (lv_at hl 0 rfl) ?_
                  refine lv_dup hx hb dX8_acted_92 rfl ?_
                  refine g_f hw hf (by decide) (c_R E _) rfl inlX8 4 (by decide) rfl q155 rfl dX8_acted_93 ?_
                  refine fold_i (show (μ1).1 7 0 = nI (((μ1).1 7 0).toNatClampNeg) from h3.1) ?_
                  refine lv_iconst (v := 1) hx hb dX8_acted_96 (by decide) ?_
                  refine lv_iadd hx hb dX8_acted_97 ?_
                  refine fold_i (show nI (((μ1).1 7 0).toNatClampNeg) + (1 : Int32) = nI (((μ1).1 7 0).toNatClampNeg + 1) from nI_add (((μ1).1 7 0).toNatClampNeg) (1)) ?_
                  refine p_f hw hf (by decide) (c_R E _) rfl inlX8 tyX8_ok nmX8 4 (by decide) rfl q155 rfl rfl rfl (Nat.le_of_ble_eq_true rfl) (s_R_4 E _ _) dX8_acted_98 (fun H locs hw => ?_)
                  refine lv_iload_n hx hb dX8_acted_101 rfl (lv_at hl 1 rfl) ?_
                  exact e_i hf hr hlocks hw rfl ((hq).trans ((if_pos c9).trans rfl)) dX8_acted_102
                · have c9n : ¬ 259 ≤ k := by have q := (nI_leI (a := 259) (b := k) (by omega) (by omega)); first | exact q.mp c9 | exact fun z => c9 (q.mpr z)
                  refine lv_aload_n hx hb dX8_acted_64 rfl (lv_at hl 0 rfl) ?_
                  refine g_f hw hf (by decide) (c_R E _) rfl inlX8 1 (by decide) rfl q91 rfl dX8_acted_65 ?_
                  refine lv_sipush (v := 259) hx hb dX8_acted_68 (by decide) ?_
                  refine lv_aload_n hx hb dX8_acted_71 rfl (lv_at hl 0 rfl) ?_
                  refine g_f hw hf (by decide) (c_R E _) rfl inlX8 4 (by decide) rfl q155 rfl dX8_acted_72 ?_
                  refine fold_i (show (μ1).1 7 0 = nI (((μ1).1 7 0).toNatClampNeg) from h3.1) ?_
                  refine lv_imul hx hb dX8_acted_75 ?_
                  refine fold_i (show (259 : Int32) * nI (((μ1).1 7 0).toNatClampNeg) = nI (259 * (((μ1).1 7 0).toNatClampNeg)) from pk_mul (259) (((μ1).1 7 0).toNatClampNeg)) ?_
                  refine lv_iload_n hx hb dX8_acted_76 rfl (lv_at hl 2 rfl) ?_
                  refine lv_iadd hx hb dX8_acted_77 ?_
                  refine fold_i (show nI (259 * (((μ1).1 7 0).toNatClampNeg)) + nI k = nI (259 * (((μ1).1 7 0).toNatClampNeg) + k) from nI_add (259 * (((μ1).1 7 0).toNatClampNeg)) (k)) ?_
                  refine lv_aload_n hx hb dX8_acted_78 rfl (lv_at hl 0 rfl) ?_
                  refine g_f hw hf (by decide) (c_R E _) rfl inlX8 3 (by decide) rfl q93 rfl dX8_acted_79 ?_
                  refine lv_iload_n hx hb dX8_acted_82 rfl (lv_at hl 2 rfl) ?_
                  refine g_a hw hf (by decide) (c_Rb E _) (vp_in_nI (show k < 259 from (by omega)) (by decide)) (tr_at (y := k) (by omega) (nI_clamp (Nat.lt_trans (show k < 259 from (by omega)) (by decide)))) dX8_acted_83 ?_
                  refine p_a hw hf (by decide) (c_Rw E _) (vp_in_nI (show 259 * (((μ1).1 7 0).toNatClampNeg) + k < 1036 from (by omega)) (by decide)) (by rw [show (nI (259 * (((μ1).1 7 0).toNatClampNeg) + k)).toNatClampNeg = 259 * (((μ1).1 7 0).toNatClampNeg) + k from (nI_clamp (Nat.lt_trans (show 259 * (((μ1).1 7 0).toNatClampNeg) + k < 1036 from (by omega)) (by decide)))]; exact (s_Rw E _ (by omega) _)) dX8_acted_84 (fun H locs hw => ?_)
                  refine lv_iinc (v := nI (k + 1)) (lv' := [(2, .int (nI (k + 1))), (0, .ref (E.1 (232))), (1, .int (w))]) hx hb dX8_acted_85 hl (k := 2) rfl (nI_1 _) (by decide) rfl (fun ls hl => ?_)
                  refine lv_goto (tgt := 57) hx hb dX8_acted_88 (by decide) ?_
                  exact ih (k + 1) (pM μ1 9 (259 * (((μ1).1 7 0).toNatClampNeg) + k) ((μ1).1 11 k)) (by omega) (by omega) (by rw [pM_row (by decide)]; exact h3) (((hq).trans ((if_neg c9).trans rfl))) _ _ _ (lv_sub hl [1, 2, 0] rfl) hw
            exact key_57 260 0 (pM μ1 7 0 (nI (((μ1).1 7 0).toNatClampNeg - 1))) (by omega) (by omega) (ni_dec4 h3 rfl) (((hq).trans ((if_pos c7).trans rfl))) _ _ _ (lv_sub hl [1, 2, 0] rfl) hw
          · have c7n : ¬ 777 ≤ k := by have q := (nI_leI (a := 777) (b := k) (by omega) (by omega)); first | exact q.mp c7 | exact fun z => c7 (q.mpr z)
            refine lv_aload_n hx hb dX8_acted_23 rfl (lv_at hl 0 rfl) ?_
            refine g_f hw hf (by decide) (c_R E _) rfl inlX8 1 (by decide) rfl q91 rfl dX8_acted_24 ?_
            refine lv_iload_n hx hb dX8_acted_27 rfl (lv_at hl 2 rfl) ?_
            refine lv_aload_n hx hb dX8_acted_28 rfl (lv_at hl 0 rfl) ?_
            refine g_f hw hf (by decide) (c_R E _) rfl inlX8 1 (by decide) rfl q91 rfl dX8_acted_29 ?_
            refine lv_iload_n hx hb dX8_acted_32 rfl (lv_at hl 2 rfl) ?_
            refine lv_sipush (v := 259) hx hb dX8_acted_33 (by decide) ?_
            refine lv_iadd hx hb dX8_acted_36 ?_
            refine fold_i (show nI k + (259 : Int32) = nI (k + 259) from nI_add (k) (259)) ?_
            refine g_a hw hf (by decide) (c_Rw E _) (vp_in_nI (show k + 259 < 1036 from (by omega)) (by decide)) (tr_at (y := k + 259) (by omega) (nI_clamp (Nat.lt_trans (show k + 259 < 1036 from (by omega)) (by decide)))) dX8_acted_37 ?_
            refine p_a hw hf (by decide) (c_Rw E _) (vp_in_nI (show k < 1036 from (by omega)) (by decide)) (by rw [show (nI k).toNatClampNeg = k from (nI_clamp (Nat.lt_trans (show k < 1036 from (by omega)) (by decide)))]; exact (s_Rw E _ (by omega) _)) dX8_acted_38 (fun H locs hw => ?_)
            refine lv_iinc (v := nI (k + 1)) (lv' := [(2, .int (nI (k + 1))), (0, .ref (E.1 (232))), (1, .int (w))]) hx hb dX8_acted_39 hl (k := 2) rfl (nI_1 _) (by decide) rfl (fun ls hl => ?_)
            refine lv_goto (tgt := 16) hx hb dX8_acted_42 (by decide) ?_
            exact ih (k + 1) (pM μ1 9 k ((μ1).1 9 (k + 259))) (by omega) (by omega) (by rw [pM_row (by decide)]; exact h3) (((hq).trans ((if_neg c7).trans rfl))) _ _ _ (lv_sub hl [1, 2, 0] rfl) hw
      exact key_16 778 0 μ (by omega) (by omega) ⟨hst, c3n⟩ (((if_neg c1).trans ((if_pos c3).trans rfl))) _ _ _ (lv_sub hl [1, 2, 0] rfl) hw
