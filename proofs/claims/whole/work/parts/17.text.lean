/-! ===== Text ===== -/
/-- the characters are chars -/
def ChOk (g : Nat → Int32) : Prop := ∀ y, y < 60 → 0 ≤ (g (8 + y)).toInt ∧ (g (8 + y)).toInt < 65536
theorem ch_nf {x : Int32} (h : 0 ≤ x.toInt ∧ x.toInt < 65536) : narrow .char (.int x) = .int x ∧ fits .char (.int x) = true := by
  obtain ⟨q, hq, rfl⟩ := nI_of (x := x) (fun z => by rw [Int32.lt_iff_toInt_lt, Int32.toInt_zero] at z; omega)
  rw [nI_toInt hq] at h
  exact pk_charN (by omega)
theorem ch_vp {x : Int32} (h : 0 ≤ x.toInt ∧ x.toInt < 65536) : vp_nar .char x = x := by
  unfold vp_nar
  rw [(ch_nf h).1]
def sp_X6_characterAt (g : Nat → Int32)  (w : Int32) : Int32 :=
  if (w : Int32) < 0 then
    0
  else
    if (g 3 : Int32) ≤ w then
      0
    else
      if (60 : Int32) ≤ w then
        0
      else
        g (8 + w.toNatClampNeg)
set_option maxHeartbeats 4000000 in
set_option maxRecDepth 100000 in
theorem k_X6_characterAt (l : Launch) (E : En) (μ : Mu)  (w : Int32) (hch : ChOk (μ.1 6)) : MtI l yX6_characterAt cX6_characterAt 3 .char ({ frames := 0, cells := 0, slots := 0, locals := 0 }) [.ref (E.1 (228)), .int (w)] E μ ((sp_X6_characterAt (μ.1 6) w), μ) := by
  refine mt_of (by decide +kernel) (Nat.le_of_ble_eq_true rfl) ?_
  intro p e s m args below meth c ls hf hr hlocks hl hw
  have hx := hf.1
  have hb := hf.2.1
  have hl : lv_has ls 3 [(0, .ref (E.1 (228))), (1, .int (w))] := hl
  refine lv_iload_n hx hb dX6_characterAt_0 rfl (lv_at hl 1 rfl) ?_
  refine lv_if_lt (tgt := 25) hx hb dX6_characterAt_1 (by decide) (fun c1 => ?_) (fun c1 => ?_)
  · refine lv_iconst (v := 0) hx hb dX6_characterAt_25 (by decide) ?_
    refine lv_istore_n (lv' := [(2, .int 0), (0, .ref (E.1 (228))), (1, .int (w))]) hx hb dX6_characterAt_26 rfl hl (by decide) rfl (fun ls hl => ?_)
    refine lv_iload_n hx hb dX6_characterAt_27 rfl (lv_at hl 0 rfl) ?_
    refine lv_if_eq (tgt := 40) hx hb dX6_characterAt_28 (by decide) (fun _ => ?_) (fun c => absurd c (by decide))
    refine lv_iconst (v := 0) hx hb dX6_characterAt_40 (by decide) ?_
    exact e_i hf hr hlocks hw rfl (congrArg (fun z => (z, μ)) ((if_pos c1).trans rfl)) dX6_characterAt_41
  · refine lv_iload_n hx hb dX6_characterAt_4 rfl (lv_at hl 1 rfl) ?_
    refine lv_aload_n hx hb dX6_characterAt_5 rfl (lv_at hl 0 rfl) ?_
    refine g_f hw hf (by decide) (c_Tx E _) rfl inlX6 0 (by decide) rfl q919 rfl dX6_characterAt_6 ?_
    refine lv_icmp_ge (tgt := 25) hx hb dX6_characterAt_9 (by decide) (fun c3 => ?_) (fun c3 => ?_)
    · refine lv_iconst (v := 0) hx hb dX6_characterAt_25 (by decide) ?_
      refine lv_istore_n (lv' := [(2, .int 0), (0, .ref (E.1 (228))), (1, .int (w))]) hx hb dX6_characterAt_26 rfl hl (by decide) rfl (fun ls hl => ?_)
      refine lv_iload_n hx hb dX6_characterAt_27 rfl (lv_at hl 0 rfl) ?_
      refine lv_if_eq (tgt := 40) hx hb dX6_characterAt_28 (by decide) (fun _ => ?_) (fun c => absurd c (by decide))
      refine lv_iconst (v := 0) hx hb dX6_characterAt_40 (by decide) ?_
      exact e_i hf hr hlocks hw rfl (congrArg (fun z => (z, μ)) ((if_neg c1).trans ((if_pos c3).trans rfl))) dX6_characterAt_41
    · refine lv_iload_n hx hb dX6_characterAt_12 rfl (lv_at hl 1 rfl) ?_
      refine lv_aload_n hx hb dX6_characterAt_13 rfl (lv_at hl 0 rfl) ?_
      refine g_f hw hf (by decide) (c_Tx E _) rfl inlX6 5 (by decide) rfl q85 rfl dX6_characterAt_14 ?_
      refine g_n hw hf (by decide) (c_Tc E _) (t0 := 1) (v := 60) rfl rfl dX6_characterAt_17 ?_
      refine lv_icmp_ge (tgt := 25) hx hb dX6_characterAt_18 (by decide) (fun c5 => ?_) (fun c5 => ?_)
      · refine lv_iconst (v := 0) hx hb dX6_characterAt_25 (by decide) ?_
        refine lv_istore_n (lv' := [(2, .int 0), (0, .ref (E.1 (228))), (1, .int (w))]) hx hb dX6_characterAt_26 rfl hl (by decide) rfl (fun ls hl => ?_)
        refine lv_iload_n hx hb dX6_characterAt_27 rfl (lv_at hl 0 rfl) ?_
        refine lv_if_eq (tgt := 40) hx hb dX6_characterAt_28 (by decide) (fun _ => ?_) (fun c => absurd c (by decide))
        refine lv_iconst (v := 0) hx hb dX6_characterAt_40 (by decide) ?_
        exact e_i hf hr hlocks hw rfl (congrArg (fun z => (z, μ)) ((if_neg c1).trans ((if_neg c3).trans ((if_pos c5).trans rfl)))) dX6_characterAt_41
      · refine lv_iconst (v := 1) hx hb dX6_characterAt_21 (by decide) ?_
        refine lv_goto (tgt := 26) hx hb dX6_characterAt_22 (by decide) ?_
        refine lv_istore_n (lv' := [(2, .int 1), (0, .ref (E.1 (228))), (1, .int (w))]) hx hb dX6_characterAt_26 rfl hl (by decide) rfl (fun ls hl => ?_)
        refine lv_iload_n hx hb dX6_characterAt_27 rfl (lv_at hl 0 rfl) ?_
        refine lv_if_eq (tgt := 40) hx hb dX6_characterAt_28 (by decide) (fun c => absurd c (by decide)) (fun _ => ?_)
        refine lv_aload_n hx hb dX6_characterAt_31 rfl (lv_at hl 1 rfl) ?_
        refine g_f hw hf (by decide) (c_Tx E _) rfl inlX6 5 (by decide) rfl q85 rfl dX6_characterAt_32 ?_
        refine lv_iload_n hx hb dX6_characterAt_35 rfl (lv_at hl 2 rfl) ?_
        refine g_c hw hf (by decide) (c_Tc E _) (vin 60 60 (by decide) (by decide) rfl c1 c5) (tr_at (y := w.toNatClampNeg) (vin_lt (vin 60 60 (by decide) (by decide) rfl c1 c5)) rfl) dX6_characterAt_36 ?_
        refine lv_goto (tgt := 41) hx hb dX6_characterAt_37 (by decide) ?_
        exact e_i hf hr hlocks hw (ch_nf (hch _ (vin_lt (vin 60 60 (by decide) (by decide) rfl c1 c5)))).1 (congrArg (fun z => (z, μ)) ((if_neg c1).trans ((if_neg c3).trans ((if_neg c5).trans rfl)))) dX6_characterAt_41
theorem b_X6_characterAt {g : Nat → Int32} (hch : ChOk g) (w : Int32) : 0 ≤ (sp_X6_characterAt g w).toInt ∧ (sp_X6_characterAt g w).toInt < 65536 := by
  unfold sp_X6_characterAt
  split
  · decide
  · split
    · decide
    · split
      · decide
      · rename_i h1 h2 h3
        exact hch _ (vin_lt (vin 60 60 (by decide) (by decide) rfl h1 h3))
theorem ch_pM {μ : Mu} {k : Nat} {v : Int32} (h : ChOk (μ.1 6)) (hk : k < 8) : ChOk ((pM μ 6 k v).1 6) := by
  intro y hy
  have e : (pM μ 6 k v).1 6 (8 + y) = μ.1 6 (8 + y) := upM_k _ _ (by omega)
  rw [e]
  exact h y hy
theorem ch_lf {v : Int32} {m : Mu} (h : ChOk (m.1 6)) : ChOk ((v, m).2.1 6) := h
theorem ch_ite {P : Prop} [Decidable P] {a b : Int32 × Mu} (ha : ChOk (a.2.1 6)) (hb : ChOk (b.2.1 6)) : ChOk ((if P then a else b).2.1 6) := by
  split
  · exact ha
  · exact hb
theorem ch_iteM {P : Prop} [Decidable P] {a b : Mu} (ha : ChOk (a.1 6)) (hb : ChOk (b.1 6)) : ChOk ((if P then a else b).1 6) := by
  split
  · exact ha
  · exact hb
theorem ch_oc {o : Option Nat} {a : Int32 × Mu} {f : Nat → Int32 × Mu} (ha : ChOk (a.2.1 6)) (hb : ∀ t, ChOk ((f t).2.1 6)) : ChOk ((oc o a f).2.1 6) := by
  cases o with
  | none => exact ha
  | some t => exact hb t
theorem ch_ocM {o : Option Nat} {a : Mu} {f : Nat → Mu} (ha : ChOk (a.1 6)) (hb : ∀ t, ChOk ((f t).1 6)) : ChOk ((oc o a f).1 6) := by
  cases o with
  | none => exact ha
  | some t => exact hb t
def sp_X6_takes (μ : Mu)  (a : Int32) : Int32 × Mu :=
  if (sp_X6_characterAt (μ.1 6)  (μ.1 6 7) : Int32) = a then
    (1, pM μ 6 7 ((μ.1 6 7) + 1))
  else
    (0, μ)
set_option maxHeartbeats 4000000 in
set_option maxRecDepth 100000 in
theorem k_X6_takes (l : Launch) (E : En) (μ : Mu)  (a : Int32) (hch : ChOk (μ.1 6)) : MtI l yX6_takes cX6_takes 2 .boolean ({ frames := 1, cells := 0, slots := 0, locals := 22 }) [.ref (E.1 (228)), .int (a)] E μ (sp_X6_takes μ a) := by
  refine mt_of (by decide +kernel) (Nat.le_of_ble_eq_true rfl) ?_
  intro p e s m args below meth c ls hf hr hlocks hl hw
  have hx := hf.1
  have hb := hf.2.1
  have hl : lv_has ls 2 [(0, .ref (E.1 (228))), (1, .int (a))] := hl
  refine lv_aload_n hx hb dX6_takes_0 rfl (lv_at hl 0 rfl) ?_
  refine lv_aload_n hx hb dX6_takes_1 rfl (lv_at hl 0 rfl) ?_
  refine g_f hw hf (by decide) (c_Tx E _) rfl inlX6 4 (by decide) rfl q950 rfl dX6_takes_2 ?_
  refine c_iR hw (run_V (As := [.int (μ.1 6 7)]) (rest := []) (np := 1) hf hw (k_X6_characterAt l E _  (μ.1 6 7)  hch) ⟨gl_V q952 q953 q954 q31 q955, by decide +kernel⟩ ⟨rfl, rfl, Nat.le_of_ble_eq_true rfl, Nat.le_of_ble_eq_true rfl⟩ (by decide) (c_Tx E _) rfl rfl hl.1 rfl (Nat.le_of_ble_eq_true rfl) dX6_takes_5 ⟨Nat.zero_le _, Nat.zero_le _⟩) (fun H locs hw => ?_)
  refine lv_iload_n hx hb dX6_takes_8 rfl (lv_at hl 1 rfl) ?_
  refine lv_icmp_eq (tgt := 14) hx hb dX6_takes_9 (by decide) (fun c1 => ?_) (fun c1 => ?_)
  · refine lv_aload_n hx hb dX6_takes_14 rfl (lv_at hl 0 rfl) ?_
    refine lv_dup hx hb dX6_takes_15 rfl ?_
    refine g_f hw hf (by decide) (c_Tx E _) rfl inlX6 4 (by decide) rfl q950 rfl dX6_takes_16 ?_
    refine lv_iconst (v := 1) hx hb dX6_takes_19 (by decide) ?_
    refine lv_iadd hx hb dX6_takes_20 ?_
    refine p_f hw hf (by decide) (c_Tx E _) rfl inlX6 tyX6_ok nmX6 4 (by decide) rfl q950 rfl rfl rfl (Nat.le_of_ble_eq_true rfl) (s_Tx_4 E _ _) dX6_takes_21 (fun H locs hw => ?_)
    refine lv_iconst (v := 1) hx hb dX6_takes_24 (by decide) ?_
    exact e_i hf hr hlocks hw rfl ((if_pos c1).trans rfl) dX6_takes_25
  · refine lv_iconst (v := 0) hx hb dX6_takes_12 (by decide) ?_
    exact e_i hf hr hlocks hw rfl ((if_neg c1).trans rfl) dX6_takes_13
theorem ch_X6_takes (μ : Mu)  (a : Int32) (hch : ChOk (μ.1 6)) : ChOk ((sp_X6_takes μ a).2.1 6) := by
  unfold sp_X6_takes
  exact (ch_ite (ch_lf (ch_pM hch (by decide))) (ch_lf hch))
theorem nb_takes (μ : Mu) (a : Int32) : narrow .boolean (.int (sp_X6_takes μ a).1) = .int (sp_X6_takes μ a).1 := by
  unfold sp_X6_takes
  split
  · exact narrow_b1
  · exact narrow_b0
def lp_X6_parsedDigits_4 (μ : Mu)   : Nat → Int32 → Nat → Mu → Int32 × Mu
  | 0, _, _, μ1 => (0, μ1)
  | f + 1, x, k, μ1 =>
    if (6 : Int32) ≤ nI k then
      if (nI k : Int32) = 0 then
        ((-1), μ1)
      else
        (x, μ1)
    else
      if (sp_X6_characterAt ((μ1).1 6)  ((μ1).1 6 7) : Int32) < 48 then
        if (nI k : Int32) = 0 then
          ((-1), μ1)
        else
          (x, μ1)
      else
        if (57 : Int32) < sp_X6_characterAt ((μ1).1 6)  ((μ1).1 6 7) then
          if (nI k : Int32) = 0 then
            ((-1), μ1)
          else
            (x, μ1)
        else
          lp_X6_parsedDigits_4 μ  f ((x * 10) + ((sp_X6_characterAt ((μ1).1 6)  ((μ1).1 6 7)) - 48)) (k + 1) (pM μ1 6 7 (((μ1).1 6 7) + 1))
def sp_X6_parsedDigits (μ : Mu)   : Int32 × Mu :=
  lp_X6_parsedDigits_4 μ  7 (0 : Int32) 0 μ
set_option maxHeartbeats 4000000 in
set_option maxRecDepth 100000 in
theorem k_X6_parsedDigits (l : Launch) (E : En) (μ : Mu)   (hch : ChOk (μ.1 6)) : MtI l yX6_parsedDigits cX6_parsedDigits 3 .int ({ frames := 1, cells := 0, slots := 0, locals := 22 }) [.ref (E.1 (228))] E μ (sp_X6_parsedDigits μ ) := by
  refine mt_of (by decide +kernel) (Nat.le_of_ble_eq_true rfl) ?_
  intro p e s m args below meth c ls hf hr hlocks hl hw
  have hx := hf.1
  have hb := hf.2.1
  have hl : lv_has ls 3 [(0, .ref (E.1 (228)))] := hl
  refine lv_iconst (v := 0) hx hb dX6_parsedDigits_0 (by decide) ?_
  refine lv_istore_n (lv' := [(1, .int 0), (0, .ref (E.1 (228)))]) hx hb dX6_parsedDigits_1 rfl hl (by decide) rfl (fun ls hl => ?_)
  refine lv_iconst (v := 0) hx hb dX6_parsedDigits_2 (by decide) ?_
  refine lv_istore_n (lv' := [(2, .int 0), (1, .int 0), (0, .ref (E.1 (228)))]) hx hb dX6_parsedDigits_3 rfl hl (by decide) rfl (fun ls hl => ?_)
  have key_4 : ∀ (f : Nat) (x : Int32) (k : Nat) (μ1 : Mu), k + f = 7 → k ≤ 6 → ChOk (μ1.1 6) → sp_X6_parsedDigits μ  = lp_X6_parsedDigits_4 μ  f x k μ1 → ∀ (ls : Array Slot) (H : Heap) (locs : List Loc), lv_has ls 3 [(0, .ref (E.1 (228))), (1, .int (x)), (2, .int (nI k))] → Wk E μ1 s H locs → W p l e ({ frames := 1, cells := 0, slots := 0, locals := 22 }) s m args below meth c H locs 0 0 (MQ below (va_Qi (fun r u => r = ((sp_X6_parsedDigits μ )).1 ∧ u = ((sp_X6_parsedDigits μ )).2) (fun u t => WdU E u t) (inE E)) args s 0 0 (inE E)) (F0 m 4 ls []) := by
    intro f
    induction f with
    | zero => intro x k μ1 h1 h2 hch1 hq ls H locs hl hw; exfalso; omega
    | succ f ih =>
      intro x k μ1 h1 h2 hch1 hq ls H locs hl hw
      refine lv_iload_n hx hb dX6_parsedDigits_4 rfl (lv_at hl 2 rfl) ?_
      refine lv_bipush (v := 6) hx hb dX6_parsedDigits_5 (by decide) ?_
      refine lv_icmp_ge (tgt := 69) hx hb dX6_parsedDigits_7 (by decide) (fun c1 => ?_) (fun c1 => ?_)
      · have c1n : 6 ≤ k := by have q := (nI_leI (a := 6) (b := k) (by omega) (by omega)); first | exact q.mp c1 | exact fun z => c1 (q.mpr z)
        refine lv_iload_n hx hb dX6_parsedDigits_69 rfl (lv_at hl 2 rfl) ?_
        refine lv_if_ne (tgt := 77) hx hb dX6_parsedDigits_70 (by decide) (fun c2 => ?_) (fun c2 => ?_)
        · have c2n : ¬ k = 0 := by have q := (nI_eq (a := k) (b := 0) (by omega) (by omega)); first | exact q.mp c2 | exact fun z => c2 (q.mpr z)
          refine lv_iload_n hx hb dX6_parsedDigits_77 rfl (lv_at hl 1 rfl) ?_
          exact e_i hf hr hlocks hw rfl ((hq).trans ((if_pos c1).trans ((if_neg c2).trans rfl))) dX6_parsedDigits_78
        · have c2n : k = 0 := by have q := (nI_eq (a := k) (b := 0) (by omega) (by omega)); first | exact q.mp c2 | exact fun z => c2 (q.mpr z)
          refine lv_iconst (v := (-1)) hx hb dX6_parsedDigits_73 (by decide) ?_
          refine lv_goto (tgt := 78) hx hb dX6_parsedDigits_74 (by decide) ?_
          exact e_i hf hr hlocks hw rfl ((hq).trans ((if_pos c1).trans ((if_pos c2).trans rfl))) dX6_parsedDigits_78
      · have c1n : ¬ 6 ≤ k := by have q := (nI_leI (a := 6) (b := k) (by omega) (by omega)); first | exact q.mp c1 | exact fun z => c1 (q.mpr z)
        refine lv_aload_n hx hb dX6_parsedDigits_10 rfl (lv_at hl 0 rfl) ?_
        refine lv_aload_n hx hb dX6_parsedDigits_11 rfl (lv_at hl 0 rfl) ?_
        refine g_f hw hf (by decide) (c_Tx E _) rfl inlX6 4 (by decide) rfl q950 rfl dX6_parsedDigits_12 ?_
        refine c_iR hw (run_V (As := [.int ((μ1).1 6 7)]) (rest := []) (np := 1) hf hw (k_X6_characterAt l E _  ((μ1).1 6 7)  hch1) ⟨gl_V q952 q953 q954 q31 q955, by decide +kernel⟩ ⟨rfl, rfl, Nat.le_of_ble_eq_true rfl, Nat.le_of_ble_eq_true rfl⟩ (by decide) (c_Tx E _) rfl rfl hl.1 rfl (Nat.le_of_ble_eq_true rfl) dX6_parsedDigits_15 ⟨Nat.zero_le _, Nat.zero_le _⟩) (fun H locs hw => ?_)
        refine lv_bipush (v := 48) hx hb dX6_parsedDigits_18 (by decide) ?_
        refine lv_icmp_lt (tgt := 69) hx hb dX6_parsedDigits_20 (by decide) (fun c3 => ?_) (fun c3 => ?_)
        · refine lv_iload_n hx hb dX6_parsedDigits_69 rfl (lv_at hl 2 rfl) ?_
          refine lv_if_ne (tgt := 77) hx hb dX6_parsedDigits_70 (by decide) (fun c4 => ?_) (fun c4 => ?_)
          · have c4n : ¬ k = 0 := by have q := (nI_eq (a := k) (b := 0) (by omega) (by omega)); first | exact q.mp c4 | exact fun z => c4 (q.mpr z)
            refine lv_iload_n hx hb dX6_parsedDigits_77 rfl (lv_at hl 1 rfl) ?_
            exact e_i hf hr hlocks hw rfl ((hq).trans ((if_neg c1).trans ((if_pos c3).trans ((if_neg c4).trans rfl)))) dX6_parsedDigits_78
          · have c4n : k = 0 := by have q := (nI_eq (a := k) (b := 0) (by omega) (by omega)); first | exact q.mp c4 | exact fun z => c4 (q.mpr z)
            refine lv_iconst (v := (-1)) hx hb dX6_parsedDigits_73 (by decide) ?_
            refine lv_goto (tgt := 78) hx hb dX6_parsedDigits_74 (by decide) ?_
            exact e_i hf hr hlocks hw rfl ((hq).trans ((if_neg c1).trans ((if_pos c3).trans ((if_pos c4).trans rfl)))) dX6_parsedDigits_78
        · refine lv_aload_n hx hb dX6_parsedDigits_23 rfl (lv_at hl 0 rfl) ?_
          refine lv_aload_n hx hb dX6_parsedDigits_24 rfl (lv_at hl 0 rfl) ?_
          refine g_f hw hf (by decide) (c_Tx E _) rfl inlX6 4 (by decide) rfl q950 rfl dX6_parsedDigits_25 ?_
          refine c_iR hw (run_V (As := [.int ((μ1).1 6 7)]) (rest := []) (np := 1) hf hw (k_X6_characterAt l E _  ((μ1).1 6 7)  hch1) ⟨gl_V q952 q953 q954 q31 q955, by decide +kernel⟩ ⟨rfl, rfl, Nat.le_of_ble_eq_true rfl, Nat.le_of_ble_eq_true rfl⟩ (by decide) (c_Tx E _) rfl rfl hl.1 rfl (Nat.le_of_ble_eq_true rfl) dX6_parsedDigits_28 ⟨Nat.zero_le _, Nat.zero_le _⟩) (fun H locs hw => ?_)
          refine lv_bipush (v := 57) hx hb dX6_parsedDigits_31 (by decide) ?_
          refine lv_icmp_gt (tgt := 69) hx hb dX6_parsedDigits_33 (by decide) (fun c5 => ?_) (fun c5 => ?_)
          · refine lv_iload_n hx hb dX6_parsedDigits_69 rfl (lv_at hl 2 rfl) ?_
            refine lv_if_ne (tgt := 77) hx hb dX6_parsedDigits_70 (by decide) (fun c6 => ?_) (fun c6 => ?_)
            · have c6n : ¬ k = 0 := by have q := (nI_eq (a := k) (b := 0) (by omega) (by omega)); first | exact q.mp c6 | exact fun z => c6 (q.mpr z)
              refine lv_iload_n hx hb dX6_parsedDigits_77 rfl (lv_at hl 1 rfl) ?_
              exact e_i hf hr hlocks hw rfl ((hq).trans ((if_neg c1).trans ((if_neg c3).trans ((if_pos c5).trans ((if_neg c6).trans rfl))))) dX6_parsedDigits_78
            · have c6n : k = 0 := by have q := (nI_eq (a := k) (b := 0) (by omega) (by omega)); first | exact q.mp c6 | exact fun z => c6 (q.mpr z)
              refine lv_iconst (v := (-1)) hx hb dX6_parsedDigits_73 (by decide) ?_
              refine lv_goto (tgt := 78) hx hb dX6_parsedDigits_74 (by decide) ?_
              exact e_i hf hr hlocks hw rfl ((hq).trans ((if_neg c1).trans ((if_neg c3).trans ((if_pos c5).trans ((if_pos c6).trans rfl))))) dX6_parsedDigits_78
          · refine lv_iload_n hx hb dX6_parsedDigits_36 rfl (lv_at hl 1 rfl) ?_
            refine lv_bipush (v := 10) hx hb dX6_parsedDigits_37 (by decide) ?_
            refine lv_imul hx hb dX6_parsedDigits_39 ?_
            refine lv_aload_n hx hb dX6_parsedDigits_40 rfl (lv_at hl 0 rfl) ?_
            refine lv_aload_n hx hb dX6_parsedDigits_41 rfl (lv_at hl 0 rfl) ?_
            refine g_f hw hf (by decide) (c_Tx E _) rfl inlX6 4 (by decide) rfl q950 rfl dX6_parsedDigits_42 ?_
            refine c_iR hw (run_V (As := [.int ((μ1).1 6 7)]) (rest := [.int (x * 10)]) (np := 1) hf hw (k_X6_characterAt l E _  ((μ1).1 6 7)  hch1) ⟨gl_V q952 q953 q954 q31 q955, by decide +kernel⟩ ⟨rfl, rfl, Nat.le_of_ble_eq_true rfl, Nat.le_of_ble_eq_true rfl⟩ (by decide) (c_Tx E _) rfl rfl hl.1 rfl (Nat.le_of_ble_eq_true rfl) dX6_parsedDigits_45 ⟨Nat.zero_le _, Nat.zero_le _⟩) (fun H locs hw => ?_)
            refine lv_bipush (v := 48) hx hb dX6_parsedDigits_48 (by decide) ?_
            refine lv_isub hx hb dX6_parsedDigits_50 ?_
            refine lv_iadd hx hb dX6_parsedDigits_51 ?_
            refine lv_istore_n (lv' := [(1, .int ((x * 10) + ((sp_X6_characterAt ((μ1).1 6)  ((μ1).1 6 7)) - 48))), (0, .ref (E.1 (228))), (2, .int (nI k))]) hx hb dX6_parsedDigits_52 rfl hl (by decide) rfl (fun ls hl => ?_)
            refine lv_aload_n hx hb dX6_parsedDigits_53 rfl (lv_at hl 1 rfl) ?_
            refine lv_dup hx hb dX6_parsedDigits_54 rfl ?_
            refine g_f hw hf (by decide) (c_Tx E _) rfl inlX6 4 (by decide) rfl q950 rfl dX6_parsedDigits_55 ?_
            refine lv_iconst (v := 1) hx hb dX6_parsedDigits_58 (by decide) ?_
            refine lv_iadd hx hb dX6_parsedDigits_59 ?_
            refine p_f hw hf (by decide) (c_Tx E _) rfl inlX6 tyX6_ok nmX6 4 (by decide) rfl q950 rfl rfl rfl (Nat.le_of_ble_eq_true rfl) (s_Tx_4 E _ _) dX6_parsedDigits_60 (fun H locs hw => ?_)
            refine lv_iinc (v := nI (k + 1)) (lv' := [(2, .int (nI (k + 1))), (1, .int ((x * 10) + ((sp_X6_characterAt ((μ1).1 6)  ((μ1).1 6 7)) - 48))), (0, .ref (E.1 (228)))]) hx hb dX6_parsedDigits_63 hl (k := 2) rfl (nI_1 _) (by decide) rfl (fun ls hl => ?_)
            refine lv_goto (tgt := 4) hx hb dX6_parsedDigits_66 (by decide) ?_
            exact ih ((x * 10) + ((sp_X6_characterAt ((μ1).1 6)  ((μ1).1 6 7)) - 48)) (k + 1) (pM μ1 6 7 (((μ1).1 6 7) + 1)) (by omega) (by omega) (ch_pM hch1 (by decide)) (((hq).trans ((if_neg c1).trans ((if_neg c3).trans ((if_neg c5).trans rfl))))) _ _ _ (lv_sub hl [2, 1, 0] rfl) hw
  exact key_4 7 (0 : Int32) 0 μ (by omega) (by omega) hch (rfl) _ _ _ (lv_sub hl [2, 1, 0] rfl) hw
theorem chl_X6_parsedDigits_4 (μ : Mu)   (f : Nat) : ∀ (x : Int32) (k : Nat) (μ1 : Mu), ChOk (μ1.1 6) → ChOk ((lp_X6_parsedDigits_4 μ  f x k μ1).2.1 6) := by
  induction f with
  | zero => intro x k μ1 hch1; exact hch1
  | succ f ih => intro x k μ1 hch1; exact (ch_ite (ch_ite (ch_lf hch1) (ch_lf hch1)) (ch_ite (ch_ite (ch_lf hch1) (ch_lf hch1)) (ch_ite (ch_ite (ch_lf hch1) (ch_lf hch1)) (ih ((x * 10) + ((sp_X6_characterAt ((μ1).1 6)  ((μ1).1 6 7)) - 48)) (k + 1) (pM μ1 6 7 (((μ1).1 6 7) + 1)) (ch_pM hch1 (by decide))))))
theorem ch_X6_parsedDigits (μ : Mu)   (hch : ChOk (μ.1 6)) : ChOk ((sp_X6_parsedDigits μ ).2.1 6) := by
  unfold sp_X6_parsedDigits
  exact (chl_X6_parsedDigits_4 μ  7 (0 : Int32) 0 μ hch)
def sp_X6_parsesNumber (μ : Mu)   : Int32 × Mu :=
  if ((sp_X6_takes μ  (44 : Int32)).1 : Int32) = 0 then
    (0, (sp_X6_takes μ  (44 : Int32)).2)
  else
    if (((sp_X6_takes μ  (44 : Int32)).2).1 6 4 : Int32) = 116 then
      if ((sp_X6_takes ((sp_X6_takes μ  (44 : Int32)).2)  (45 : Int32)).1 : Int32) = 0 then
        if ((sp_X6_parsedDigits ((sp_X6_takes ((sp_X6_takes μ  (44 : Int32)).2)  (45 : Int32)).2)  ).1 : Int32) < 0 then
          (0, pM ((sp_X6_parsedDigits ((sp_X6_takes ((sp_X6_takes μ  (44 : Int32)).2)  (45 : Int32)).2)  ).2) 6 6 ((sp_X6_parsedDigits ((sp_X6_takes ((sp_X6_takes μ  (44 : Int32)).2)  (45 : Int32)).2)  ).1))
        else
          (1, pM ((sp_X6_parsedDigits ((sp_X6_takes ((sp_X6_takes μ  (44 : Int32)).2)  (45 : Int32)).2)  ).2) 6 6 ((sp_X6_parsedDigits ((sp_X6_takes ((sp_X6_takes μ  (44 : Int32)).2)  (45 : Int32)).2)  ).1))
      else
        if ((sp_X6_parsedDigits ((sp_X6_takes ((sp_X6_takes μ  (44 : Int32)).2)  (45 : Int32)).2)  ).1 : Int32) < 0 then
          (0, pM ((sp_X6_parsedDigits ((sp_X6_takes ((sp_X6_takes μ  (44 : Int32)).2)  (45 : Int32)).2)  ).2) 6 6 (-((sp_X6_parsedDigits ((sp_X6_takes ((sp_X6_takes μ  (44 : Int32)).2)  (45 : Int32)).2)  ).1)))
        else
          (1, pM ((sp_X6_parsedDigits ((sp_X6_takes ((sp_X6_takes μ  (44 : Int32)).2)  (45 : Int32)).2)  ).2) 6 6 (-((sp_X6_parsedDigits ((sp_X6_takes ((sp_X6_takes μ  (44 : Int32)).2)  (45 : Int32)).2)  ).1)))
    else
      if ((sp_X6_parsedDigits ((sp_X6_takes μ  (44 : Int32)).2)  ).1 : Int32) < 0 then
        (0, pM ((sp_X6_parsedDigits ((sp_X6_takes μ  (44 : Int32)).2)  ).2) 6 6 ((sp_X6_parsedDigits ((sp_X6_takes μ  (44 : Int32)).2)  ).1))
      else
        (1, pM ((sp_X6_parsedDigits ((sp_X6_takes μ  (44 : Int32)).2)  ).2) 6 6 ((sp_X6_parsedDigits ((sp_X6_takes μ  (44 : Int32)).2)  ).1))
set_option maxHeartbeats 4000000 in
set_option maxRecDepth 100000 in
theorem k_X6_parsesNumber (l : Launch) (E : En) (μ : Mu)   (hch : ChOk (μ.1 6)) : MtI l yX6_parsesNumber cX6_parsesNumber 3 .boolean ({ frames := 2, cells := 0, slots := 0, locals := 44 }) [.ref (E.1 (228))] E μ (sp_X6_parsesNumber μ ) := by
  refine mt_of (by decide +kernel) (Nat.le_of_ble_eq_true rfl) ?_
  intro p e s m args below meth c ls hf hr hlocks hl hw
  have hx := hf.1
  have hb := hf.2.1
  have hl : lv_has ls 3 [(0, .ref (E.1 (228)))] := hl
  refine lv_aload_n hx hb dX6_parsesNumber_0 rfl (lv_at hl 0 rfl) ?_
  refine lv_bipush (v := 44) hx hb dX6_parsesNumber_1 (by decide) ?_
  refine c_i hw (run_V (As := [.int 44]) (rest := []) (np := 1) hf hw (k_X6_takes l E _  (44 : Int32)  hch) ⟨gl_V q956 q957 q958 q31 q959, by decide +kernel⟩ ⟨rfl, rfl, Nat.le_of_ble_eq_true rfl, Nat.le_of_ble_eq_true rfl⟩ (by decide) (c_Tx E _) rfl rfl hl.1 rfl (Nat.le_of_ble_eq_true rfl) dX6_parsesNumber_3 ⟨Nat.zero_le _, Nat.zero_le _⟩) (fun H locs hw => ?_)
  refine lv_if_ne (tgt := 11) hx hb dX6_parsesNumber_6 (by decide) (fun c1 => ?_) (fun c1 => ?_)
  · refine lv_aload_n hx hb dX6_parsesNumber_11 rfl (lv_at hl 0 rfl) ?_
    refine g_f hw hf (by decide) (c_Tx E _) rfl inlX6 1 (by decide) rfl q949 rfl dX6_parsesNumber_12 ?_
    refine lv_bipush (v := 116) hx hb dX6_parsesNumber_15 (by decide) ?_
    refine lv_icmp_ne (tgt := 33) hx hb dX6_parsesNumber_17 (by decide) (fun c2 => ?_) (fun c2 => ?_)
    · refine lv_iconst (v := 0) hx hb dX6_parsesNumber_33 (by decide) ?_
      refine lv_istore_n (lv' := [(1, .int 0), (0, .ref (E.1 (228)))]) hx hb dX6_parsesNumber_34 rfl hl (by decide) rfl (fun ls hl => ?_)
      refine lv_aload_n hx hb dX6_parsesNumber_35 rfl (lv_at hl 1 rfl) ?_
      refine c_i hw (run_V (As := []) (rest := []) (np := 0) hf hw (k_X6_parsedDigits l E _    (ch_X6_takes _ _ hch)) ⟨gl_V q960 q961 q962 q31 q963, by decide +kernel⟩ ⟨rfl, rfl, Nat.le_of_ble_eq_true rfl, Nat.le_of_ble_eq_true rfl⟩ (by decide) (c_Tx E _) rfl rfl hl.1 rfl (Nat.le_of_ble_eq_true rfl) dX6_parsesNumber_36 ⟨Nat.zero_le _, Nat.zero_le _⟩) (fun H locs hw => ?_)
      refine lv_istore_n (lv' := [(2, .int ((sp_X6_parsedDigits ((sp_X6_takes μ  (44 : Int32)).2)  ).1)), (1, .int 0), (0, .ref (E.1 (228)))]) hx hb dX6_parsesNumber_39 rfl hl (by decide) rfl (fun ls hl => ?_)
      refine lv_aload_n hx hb dX6_parsesNumber_40 rfl (lv_at hl 2 rfl) ?_
      refine lv_iload_n hx hb dX6_parsesNumber_41 rfl (lv_at hl 1 rfl) ?_
      refine lv_if_eq (tgt := 50) hx hb dX6_parsesNumber_42 (by decide) (fun _ => ?_) (fun c => absurd c (by decide))
      refine lv_iload_n hx hb dX6_parsesNumber_50 rfl (lv_at hl 0 rfl) ?_
      refine p_f hw hf (by decide) (c_Tx E _) rfl inlX6 tyX6_ok nmX6 3 (by decide) rfl q968 rfl rfl rfl (Nat.le_of_ble_eq_true rfl) (s_Tx_3 E _ _) dX6_parsesNumber_51 (fun H locs hw => ?_)
      refine lv_iload_n hx hb dX6_parsesNumber_54 rfl (lv_at hl 0 rfl) ?_
      refine lv_if_lt (tgt := 62) hx hb dX6_parsesNumber_55 (by decide) (fun c4 => ?_) (fun c4 => ?_)
      · refine lv_iconst (v := 0) hx hb dX6_parsesNumber_62 (by decide) ?_
        exact e_i hf hr hlocks hw rfl ((if_neg c1).trans ((if_neg c2).trans ((if_pos c4).trans rfl))) dX6_parsesNumber_63
      · refine lv_iconst (v := 1) hx hb dX6_parsesNumber_58 (by decide) ?_
        refine lv_goto (tgt := 63) hx hb dX6_parsesNumber_59 (by decide) ?_
        exact e_i hf hr hlocks hw rfl ((if_neg c1).trans ((if_neg c2).trans ((if_neg c4).trans rfl))) dX6_parsesNumber_63
    · refine lv_aload_n hx hb dX6_parsesNumber_20 rfl (lv_at hl 0 rfl) ?_
      refine lv_bipush (v := 45) hx hb dX6_parsesNumber_21 (by decide) ?_
      refine c_i hw (run_V (As := [.int 45]) (rest := []) (np := 1) hf hw (k_X6_takes l E _  (45 : Int32)  (ch_X6_takes _ _ hch)) ⟨gl_V q956 q957 q958 q31 q959, by decide +kernel⟩ ⟨rfl, rfl, Nat.le_of_ble_eq_true rfl, Nat.le_of_ble_eq_true rfl⟩ (by decide) (c_Tx E _) rfl rfl hl.1 rfl (Nat.le_of_ble_eq_true rfl) dX6_parsesNumber_23 ⟨Nat.zero_le _, Nat.zero_le _⟩) (fun H locs hw => ?_)
      refine lv_if_eq (tgt := 33) hx hb dX6_parsesNumber_26 (by decide) (fun c5 => ?_) (fun c5 => ?_)
      · refine lv_iconst (v := 0) hx hb dX6_parsesNumber_33 (by decide) ?_
        refine lv_istore_n (lv' := [(1, .int 0), (0, .ref (E.1 (228)))]) hx hb dX6_parsesNumber_34 rfl hl (by decide) rfl (fun ls hl => ?_)
        refine lv_aload_n hx hb dX6_parsesNumber_35 rfl (lv_at hl 1 rfl) ?_
        refine c_i hw (run_V (As := []) (rest := []) (np := 0) hf hw (k_X6_parsedDigits l E _    (ch_X6_takes _ _ (ch_X6_takes _ _ hch))) ⟨gl_V q960 q961 q962 q31 q963, by decide +kernel⟩ ⟨rfl, rfl, Nat.le_of_ble_eq_true rfl, Nat.le_of_ble_eq_true rfl⟩ (by decide) (c_Tx E _) rfl rfl hl.1 rfl (Nat.le_of_ble_eq_true rfl) dX6_parsesNumber_36 ⟨Nat.zero_le _, Nat.zero_le _⟩) (fun H locs hw => ?_)
        refine lv_istore_n (lv' := [(2, .int ((sp_X6_parsedDigits ((sp_X6_takes ((sp_X6_takes μ  (44 : Int32)).2)  (45 : Int32)).2)  ).1)), (1, .int 0), (0, .ref (E.1 (228)))]) hx hb dX6_parsesNumber_39 rfl hl (by decide) rfl (fun ls hl => ?_)
        refine lv_aload_n hx hb dX6_parsesNumber_40 rfl (lv_at hl 2 rfl) ?_
        refine lv_iload_n hx hb dX6_parsesNumber_41 rfl (lv_at hl 1 rfl) ?_
        refine lv_if_eq (tgt := 50) hx hb dX6_parsesNumber_42 (by decide) (fun _ => ?_) (fun c => absurd c (by decide))
        refine lv_iload_n hx hb dX6_parsesNumber_50 rfl (lv_at hl 0 rfl) ?_
        refine p_f hw hf (by decide) (c_Tx E _) rfl inlX6 tyX6_ok nmX6 3 (by decide) rfl q968 rfl rfl rfl (Nat.le_of_ble_eq_true rfl) (s_Tx_3 E _ _) dX6_parsesNumber_51 (fun H locs hw => ?_)
        refine lv_iload_n hx hb dX6_parsesNumber_54 rfl (lv_at hl 0 rfl) ?_
        refine lv_if_lt (tgt := 62) hx hb dX6_parsesNumber_55 (by decide) (fun c7 => ?_) (fun c7 => ?_)
        · refine lv_iconst (v := 0) hx hb dX6_parsesNumber_62 (by decide) ?_
          exact e_i hf hr hlocks hw rfl ((if_neg c1).trans ((if_pos c2).trans ((if_pos c5).trans ((if_pos c7).trans rfl)))) dX6_parsesNumber_63
        · refine lv_iconst (v := 1) hx hb dX6_parsesNumber_58 (by decide) ?_
          refine lv_goto (tgt := 63) hx hb dX6_parsesNumber_59 (by decide) ?_
          exact e_i hf hr hlocks hw rfl ((if_neg c1).trans ((if_pos c2).trans ((if_pos c5).trans ((if_neg c7).trans rfl)))) dX6_parsesNumber_63
      · refine lv_iconst (v := 1) hx hb dX6_parsesNumber_29 (by decide) ?_
        refine lv_goto (tgt := 34) hx hb dX6_parsesNumber_30 (by decide) ?_
        refine lv_istore_n (lv' := [(1, .int 1), (0, .ref (E.1 (228)))]) hx hb dX6_parsesNumber_34 rfl hl (by decide) rfl (fun ls hl => ?_)
        refine lv_aload_n hx hb dX6_parsesNumber_35 rfl (lv_at hl 1 rfl) ?_
        refine c_i hw (run_V (As := []) (rest := []) (np := 0) hf hw (k_X6_parsedDigits l E _    (ch_X6_takes _ _ (ch_X6_takes _ _ hch))) ⟨gl_V q960 q961 q962 q31 q963, by decide +kernel⟩ ⟨rfl, rfl, Nat.le_of_ble_eq_true rfl, Nat.le_of_ble_eq_true rfl⟩ (by decide) (c_Tx E _) rfl rfl hl.1 rfl (Nat.le_of_ble_eq_true rfl) dX6_parsesNumber_36 ⟨Nat.zero_le _, Nat.zero_le _⟩) (fun H locs hw => ?_)
        refine lv_istore_n (lv' := [(2, .int ((sp_X6_parsedDigits ((sp_X6_takes ((sp_X6_takes μ  (44 : Int32)).2)  (45 : Int32)).2)  ).1)), (1, .int 1), (0, .ref (E.1 (228)))]) hx hb dX6_parsesNumber_39 rfl hl (by decide) rfl (fun ls hl => ?_)
        refine lv_aload_n hx hb dX6_parsesNumber_40 rfl (lv_at hl 2 rfl) ?_
        refine lv_iload_n hx hb dX6_parsesNumber_41 rfl (lv_at hl 1 rfl) ?_
        refine lv_if_eq (tgt := 50) hx hb dX6_parsesNumber_42 (by decide) (fun c => absurd c (by decide)) (fun _ => ?_)
        refine lv_iload_n hx hb dX6_parsesNumber_45 rfl (lv_at hl 0 rfl) ?_
        refine lv_ineg hx hb dX6_parsesNumber_46 ?_
        refine lv_goto (tgt := 51) hx hb dX6_parsesNumber_47 (by decide) ?_
        refine p_f hw hf (by decide) (c_Tx E _) rfl inlX6 tyX6_ok nmX6 3 (by decide) rfl q968 rfl rfl rfl (Nat.le_of_ble_eq_true rfl) (s_Tx_3 E _ _) dX6_parsesNumber_51 (fun H locs hw => ?_)
        refine lv_iload_n hx hb dX6_parsesNumber_54 rfl (lv_at hl 0 rfl) ?_
        refine lv_if_lt (tgt := 62) hx hb dX6_parsesNumber_55 (by decide) (fun c9 => ?_) (fun c9 => ?_)
        · refine lv_iconst (v := 0) hx hb dX6_parsesNumber_62 (by decide) ?_
          exact e_i hf hr hlocks hw rfl ((if_neg c1).trans ((if_pos c2).trans ((if_neg c5).trans ((if_pos c9).trans rfl)))) dX6_parsesNumber_63
        · refine lv_iconst (v := 1) hx hb dX6_parsesNumber_58 (by decide) ?_
          refine lv_goto (tgt := 63) hx hb dX6_parsesNumber_59 (by decide) ?_
          exact e_i hf hr hlocks hw rfl ((if_neg c1).trans ((if_pos c2).trans ((if_neg c5).trans ((if_neg c9).trans rfl)))) dX6_parsesNumber_63
  · refine lv_iconst (v := 0) hx hb dX6_parsesNumber_9 (by decide) ?_
    exact e_i hf hr hlocks hw rfl ((if_pos c1).trans rfl) dX6_parsesNumber_10
theorem ch_X6_parsesNumber (μ : Mu)   (hch : ChOk (μ.1 6)) : ChOk ((sp_X6_parsesNumber μ ).2.1 6) := by
  unfold sp_X6_parsesNumber
  exact (ch_ite (ch_lf (ch_X6_takes _ _ hch)) (ch_ite (ch_ite (ch_ite (ch_lf (ch_pM (ch_X6_parsedDigits _ (ch_X6_takes _ _ (ch_X6_takes _ _ hch))) (by decide))) (ch_lf (ch_pM (ch_X6_parsedDigits _ (ch_X6_takes _ _ (ch_X6_takes _ _ hch))) (by decide)))) (ch_ite (ch_lf (ch_pM (ch_X6_parsedDigits _ (ch_X6_takes _ _ (ch_X6_takes _ _ hch))) (by decide))) (ch_lf (ch_pM (ch_X6_parsedDigits _ (ch_X6_takes _ _ (ch_X6_takes _ _ hch))) (by decide))))) (ch_ite (ch_lf (ch_pM (ch_X6_parsedDigits _ (ch_X6_takes _ _ hch)) (by decide))) (ch_lf (ch_pM (ch_X6_parsedDigits _ (ch_X6_takes _ _ hch)) (by decide))))))
theorem nb_parsesNumber (μ : Mu) : narrow .boolean (.int (sp_X6_parsesNumber μ).1) = .int (sp_X6_parsesNumber μ).1 := by
  unfold sp_X6_parsesNumber
  repeat' split
  all_goals (first | exact narrow_b1 | exact narrow_b0)
def sp_X6_parse (μ : Mu)  (w : Int32) : Int32 × Mu :=
  if (sp_X6_characterAt (μ.1 6)  w : Int32) = 115 then
    ((sp_X6_takes (pM (pM μ 6 4 (sp_X6_characterAt (μ.1 6)  w)) 6 7 (w + 1))  (59 : Int32)).1, (sp_X6_takes (pM (pM μ 6 4 (sp_X6_characterAt (μ.1 6)  w)) 6 7 (w + 1))  (59 : Int32)).2)
  else
    if (sp_X6_characterAt (μ.1 6)  w : Int32) = 116 then
      if (0 : Int32) ≤ (sp_X6_parsedDigits (pM (pM μ 6 4 (sp_X6_characterAt (μ.1 6)  w)) 6 7 (w + 1))  ).1 then
        if (((sp_X6_parsedDigits (pM (pM μ 6 4 (sp_X6_characterAt (μ.1 6)  w)) 6 7 (w + 1))  ).2).1 6 4 : Int32) = 114 then
          ((sp_X6_takes (pM ((sp_X6_parsedDigits (pM (pM μ 6 4 (sp_X6_characterAt (μ.1 6)  w)) 6 7 (w + 1))  ).2) 6 5 ((sp_X6_parsedDigits (pM (pM μ 6 4 (sp_X6_characterAt (μ.1 6)  w)) 6 7 (w + 1))  ).1))  (59 : Int32)).1, (sp_X6_takes (pM ((sp_X6_parsedDigits (pM (pM μ 6 4 (sp_X6_characterAt (μ.1 6)  w)) 6 7 (w + 1))  ).2) 6 5 ((sp_X6_parsedDigits (pM (pM μ 6 4 (sp_X6_characterAt (μ.1 6)  w)) 6 7 (w + 1))  ).1))  (59 : Int32)).2)
        else
          if ((sp_X6_parsesNumber (pM ((sp_X6_parsedDigits (pM (pM μ 6 4 (sp_X6_characterAt (μ.1 6)  w)) 6 7 (w + 1))  ).2) 6 5 ((sp_X6_parsedDigits (pM (pM μ 6 4 (sp_X6_characterAt (μ.1 6)  w)) 6 7 (w + 1))  ).1))  ).1 : Int32) = 0 then
            (0, (sp_X6_parsesNumber (pM ((sp_X6_parsedDigits (pM (pM μ 6 4 (sp_X6_characterAt (μ.1 6)  w)) 6 7 (w + 1))  ).2) 6 5 ((sp_X6_parsedDigits (pM (pM μ 6 4 (sp_X6_characterAt (μ.1 6)  w)) 6 7 (w + 1))  ).1))  ).2)
          else
            if ((sp_X6_takes ((sp_X6_parsesNumber (pM ((sp_X6_parsedDigits (pM (pM μ 6 4 (sp_X6_characterAt (μ.1 6)  w)) 6 7 (w + 1))  ).2) 6 5 ((sp_X6_parsedDigits (pM (pM μ 6 4 (sp_X6_characterAt (μ.1 6)  w)) 6 7 (w + 1))  ).1))  ).2)  (59 : Int32)).1 : Int32) = 0 then
              (0, (sp_X6_takes ((sp_X6_parsesNumber (pM ((sp_X6_parsedDigits (pM (pM μ 6 4 (sp_X6_characterAt (μ.1 6)  w)) 6 7 (w + 1))  ).2) 6 5 ((sp_X6_parsedDigits (pM (pM μ 6 4 (sp_X6_characterAt (μ.1 6)  w)) 6 7 (w + 1))  ).1))  ).2)  (59 : Int32)).2)
            else
              (1, (sp_X6_takes ((sp_X6_parsesNumber (pM ((sp_X6_parsedDigits (pM (pM μ 6 4 (sp_X6_characterAt (μ.1 6)  w)) 6 7 (w + 1))  ).2) 6 5 ((sp_X6_parsedDigits (pM (pM μ 6 4 (sp_X6_characterAt (μ.1 6)  w)) 6 7 (w + 1))  ).1))  ).2)  (59 : Int32)).2)
      else
        (0, pM ((sp_X6_parsedDigits (pM (pM μ 6 4 (sp_X6_characterAt (μ.1 6)  w)) 6 7 (w + 1))  ).2) 6 5 ((sp_X6_parsedDigits (pM (pM μ 6 4 (sp_X6_characterAt (μ.1 6)  w)) 6 7 (w + 1))  ).1))
    else
      if (sp_X6_characterAt (μ.1 6)  w : Int32) = 114 then
        if (0 : Int32) ≤ (sp_X6_parsedDigits (pM (pM μ 6 4 (sp_X6_characterAt (μ.1 6)  w)) 6 7 (w + 1))  ).1 then
          if (((sp_X6_parsedDigits (pM (pM μ 6 4 (sp_X6_characterAt (μ.1 6)  w)) 6 7 (w + 1))  ).2).1 6 4 : Int32) = 114 then
            ((sp_X6_takes (pM ((sp_X6_parsedDigits (pM (pM μ 6 4 (sp_X6_characterAt (μ.1 6)  w)) 6 7 (w + 1))  ).2) 6 5 ((sp_X6_parsedDigits (pM (pM μ 6 4 (sp_X6_characterAt (μ.1 6)  w)) 6 7 (w + 1))  ).1))  (59 : Int32)).1, (sp_X6_takes (pM ((sp_X6_parsedDigits (pM (pM μ 6 4 (sp_X6_characterAt (μ.1 6)  w)) 6 7 (w + 1))  ).2) 6 5 ((sp_X6_parsedDigits (pM (pM μ 6 4 (sp_X6_characterAt (μ.1 6)  w)) 6 7 (w + 1))  ).1))  (59 : Int32)).2)
          else
            if ((sp_X6_parsesNumber (pM ((sp_X6_parsedDigits (pM (pM μ 6 4 (sp_X6_characterAt (μ.1 6)  w)) 6 7 (w + 1))  ).2) 6 5 ((sp_X6_parsedDigits (pM (pM μ 6 4 (sp_X6_characterAt (μ.1 6)  w)) 6 7 (w + 1))  ).1))  ).1 : Int32) = 0 then
              (0, (sp_X6_parsesNumber (pM ((sp_X6_parsedDigits (pM (pM μ 6 4 (sp_X6_characterAt (μ.1 6)  w)) 6 7 (w + 1))  ).2) 6 5 ((sp_X6_parsedDigits (pM (pM μ 6 4 (sp_X6_characterAt (μ.1 6)  w)) 6 7 (w + 1))  ).1))  ).2)
            else
              if ((sp_X6_takes ((sp_X6_parsesNumber (pM ((sp_X6_parsedDigits (pM (pM μ 6 4 (sp_X6_characterAt (μ.1 6)  w)) 6 7 (w + 1))  ).2) 6 5 ((sp_X6_parsedDigits (pM (pM μ 6 4 (sp_X6_characterAt (μ.1 6)  w)) 6 7 (w + 1))  ).1))  ).2)  (59 : Int32)).1 : Int32) = 0 then
                (0, (sp_X6_takes ((sp_X6_parsesNumber (pM ((sp_X6_parsedDigits (pM (pM μ 6 4 (sp_X6_characterAt (μ.1 6)  w)) 6 7 (w + 1))  ).2) 6 5 ((sp_X6_parsedDigits (pM (pM μ 6 4 (sp_X6_characterAt (μ.1 6)  w)) 6 7 (w + 1))  ).1))  ).2)  (59 : Int32)).2)
              else
                (1, (sp_X6_takes ((sp_X6_parsesNumber (pM ((sp_X6_parsedDigits (pM (pM μ 6 4 (sp_X6_characterAt (μ.1 6)  w)) 6 7 (w + 1))  ).2) 6 5 ((sp_X6_parsedDigits (pM (pM μ 6 4 (sp_X6_characterAt (μ.1 6)  w)) 6 7 (w + 1))  ).1))  ).2)  (59 : Int32)).2)
        else
          (0, pM ((sp_X6_parsedDigits (pM (pM μ 6 4 (sp_X6_characterAt (μ.1 6)  w)) 6 7 (w + 1))  ).2) 6 5 ((sp_X6_parsedDigits (pM (pM μ 6 4 (sp_X6_characterAt (μ.1 6)  w)) 6 7 (w + 1))  ).1))
      else
        if (sp_X6_characterAt (μ.1 6)  w : Int32) = 98 then
          if (0 : Int32) ≤ (sp_X6_parsedDigits (pM (pM μ 6 4 (sp_X6_characterAt (μ.1 6)  w)) 6 7 (w + 1))  ).1 then
            if (((sp_X6_parsedDigits (pM (pM μ 6 4 (sp_X6_characterAt (μ.1 6)  w)) 6 7 (w + 1))  ).2).1 6 4 : Int32) = 114 then
              ((sp_X6_takes (pM ((sp_X6_parsedDigits (pM (pM μ 6 4 (sp_X6_characterAt (μ.1 6)  w)) 6 7 (w + 1))  ).2) 6 5 ((sp_X6_parsedDigits (pM (pM μ 6 4 (sp_X6_characterAt (μ.1 6)  w)) 6 7 (w + 1))  ).1))  (59 : Int32)).1, (sp_X6_takes (pM ((sp_X6_parsedDigits (pM (pM μ 6 4 (sp_X6_characterAt (μ.1 6)  w)) 6 7 (w + 1))  ).2) 6 5 ((sp_X6_parsedDigits (pM (pM μ 6 4 (sp_X6_characterAt (μ.1 6)  w)) 6 7 (w + 1))  ).1))  (59 : Int32)).2)
            else
              if ((sp_X6_parsesNumber (pM ((sp_X6_parsedDigits (pM (pM μ 6 4 (sp_X6_characterAt (μ.1 6)  w)) 6 7 (w + 1))  ).2) 6 5 ((sp_X6_parsedDigits (pM (pM μ 6 4 (sp_X6_characterAt (μ.1 6)  w)) 6 7 (w + 1))  ).1))  ).1 : Int32) = 0 then
                (0, (sp_X6_parsesNumber (pM ((sp_X6_parsedDigits (pM (pM μ 6 4 (sp_X6_characterAt (μ.1 6)  w)) 6 7 (w + 1))  ).2) 6 5 ((sp_X6_parsedDigits (pM (pM μ 6 4 (sp_X6_characterAt (μ.1 6)  w)) 6 7 (w + 1))  ).1))  ).2)
              else
                if ((sp_X6_takes ((sp_X6_parsesNumber (pM ((sp_X6_parsedDigits (pM (pM μ 6 4 (sp_X6_characterAt (μ.1 6)  w)) 6 7 (w + 1))  ).2) 6 5 ((sp_X6_parsedDigits (pM (pM μ 6 4 (sp_X6_characterAt (μ.1 6)  w)) 6 7 (w + 1))  ).1))  ).2)  (59 : Int32)).1 : Int32) = 0 then
                  (0, (sp_X6_takes ((sp_X6_parsesNumber (pM ((sp_X6_parsedDigits (pM (pM μ 6 4 (sp_X6_characterAt (μ.1 6)  w)) 6 7 (w + 1))  ).2) 6 5 ((sp_X6_parsedDigits (pM (pM μ 6 4 (sp_X6_characterAt (μ.1 6)  w)) 6 7 (w + 1))  ).1))  ).2)  (59 : Int32)).2)
                else
                  (1, (sp_X6_takes ((sp_X6_parsesNumber (pM ((sp_X6_parsedDigits (pM (pM μ 6 4 (sp_X6_characterAt (μ.1 6)  w)) 6 7 (w + 1))  ).2) 6 5 ((sp_X6_parsedDigits (pM (pM μ 6 4 (sp_X6_characterAt (μ.1 6)  w)) 6 7 (w + 1))  ).1))  ).2)  (59 : Int32)).2)
          else
            (0, pM ((sp_X6_parsedDigits (pM (pM μ 6 4 (sp_X6_characterAt (μ.1 6)  w)) 6 7 (w + 1))  ).2) 6 5 ((sp_X6_parsedDigits (pM (pM μ 6 4 (sp_X6_characterAt (μ.1 6)  w)) 6 7 (w + 1))  ).1))
        else
          if (sp_X6_characterAt (μ.1 6)  w : Int32) = 109 then
            if (0 : Int32) ≤ (sp_X6_parsedDigits (pM (pM μ 6 4 (sp_X6_characterAt (μ.1 6)  w)) 6 7 (w + 1))  ).1 then
              if (((sp_X6_parsedDigits (pM (pM μ 6 4 (sp_X6_characterAt (μ.1 6)  w)) 6 7 (w + 1))  ).2).1 6 4 : Int32) = 114 then
                ((sp_X6_takes (pM ((sp_X6_parsedDigits (pM (pM μ 6 4 (sp_X6_characterAt (μ.1 6)  w)) 6 7 (w + 1))  ).2) 6 5 ((sp_X6_parsedDigits (pM (pM μ 6 4 (sp_X6_characterAt (μ.1 6)  w)) 6 7 (w + 1))  ).1))  (59 : Int32)).1, (sp_X6_takes (pM ((sp_X6_parsedDigits (pM (pM μ 6 4 (sp_X6_characterAt (μ.1 6)  w)) 6 7 (w + 1))  ).2) 6 5 ((sp_X6_parsedDigits (pM (pM μ 6 4 (sp_X6_characterAt (μ.1 6)  w)) 6 7 (w + 1))  ).1))  (59 : Int32)).2)
              else
                if ((sp_X6_parsesNumber (pM ((sp_X6_parsedDigits (pM (pM μ 6 4 (sp_X6_characterAt (μ.1 6)  w)) 6 7 (w + 1))  ).2) 6 5 ((sp_X6_parsedDigits (pM (pM μ 6 4 (sp_X6_characterAt (μ.1 6)  w)) 6 7 (w + 1))  ).1))  ).1 : Int32) = 0 then
                  (0, (sp_X6_parsesNumber (pM ((sp_X6_parsedDigits (pM (pM μ 6 4 (sp_X6_characterAt (μ.1 6)  w)) 6 7 (w + 1))  ).2) 6 5 ((sp_X6_parsedDigits (pM (pM μ 6 4 (sp_X6_characterAt (μ.1 6)  w)) 6 7 (w + 1))  ).1))  ).2)
                else
                  if ((sp_X6_takes ((sp_X6_parsesNumber (pM ((sp_X6_parsedDigits (pM (pM μ 6 4 (sp_X6_characterAt (μ.1 6)  w)) 6 7 (w + 1))  ).2) 6 5 ((sp_X6_parsedDigits (pM (pM μ 6 4 (sp_X6_characterAt (μ.1 6)  w)) 6 7 (w + 1))  ).1))  ).2)  (59 : Int32)).1 : Int32) = 0 then
                    (0, (sp_X6_takes ((sp_X6_parsesNumber (pM ((sp_X6_parsedDigits (pM (pM μ 6 4 (sp_X6_characterAt (μ.1 6)  w)) 6 7 (w + 1))  ).2) 6 5 ((sp_X6_parsedDigits (pM (pM μ 6 4 (sp_X6_characterAt (μ.1 6)  w)) 6 7 (w + 1))  ).1))  ).2)  (59 : Int32)).2)
                  else
                    (1, (sp_X6_takes ((sp_X6_parsesNumber (pM ((sp_X6_parsedDigits (pM (pM μ 6 4 (sp_X6_characterAt (μ.1 6)  w)) 6 7 (w + 1))  ).2) 6 5 ((sp_X6_parsedDigits (pM (pM μ 6 4 (sp_X6_characterAt (μ.1 6)  w)) 6 7 (w + 1))  ).1))  ).2)  (59 : Int32)).2)
            else
              (0, pM ((sp_X6_parsedDigits (pM (pM μ 6 4 (sp_X6_characterAt (μ.1 6)  w)) 6 7 (w + 1))  ).2) 6 5 ((sp_X6_parsedDigits (pM (pM μ 6 4 (sp_X6_characterAt (μ.1 6)  w)) 6 7 (w + 1))  ).1))
          else
            (0, pM (pM μ 6 4 (sp_X6_characterAt (μ.1 6)  w)) 6 7 (w + 1))
set_option maxHeartbeats 4000000 in
set_option maxRecDepth 100000 in
theorem k_X6_parse (l : Launch) (E : En) (μ : Mu)  (w : Int32) (hch : ChOk (μ.1 6)) : MtI l yX6_parse cX6_parse 2 .boolean ({ frames := 3, cells := 0, slots := 0, locals := 66 }) [.ref (E.1 (228)), .int (w)] E μ (sp_X6_parse μ w) := by
  refine mt_of (by decide +kernel) (Nat.le_of_ble_eq_true rfl) ?_
  intro p e s m args below meth c ls hf hr hlocks hl hw
  have hx := hf.1
  have hb := hf.2.1
  have hl : lv_has ls 2 [(0, .ref (E.1 (228))), (1, .int (w))] := hl
  refine lv_aload_n hx hb dX6_parse_0 rfl (lv_at hl 0 rfl) ?_
  refine lv_aload_n hx hb dX6_parse_1 rfl (lv_at hl 0 rfl) ?_
  refine lv_iload_n hx hb dX6_parse_2 rfl (lv_at hl 1 rfl) ?_
  refine c_iR hw (run_V (As := [.int (w)]) (rest := [.ref (E.1 (228))]) (np := 1) hf hw (k_X6_characterAt l E _  w  hch) ⟨gl_V q952 q953 q954 q31 q955, by decide +kernel⟩ ⟨rfl, rfl, Nat.le_of_ble_eq_true rfl, Nat.le_of_ble_eq_true rfl⟩ (by decide) (c_Tx E _) rfl rfl hl.1 rfl (Nat.le_of_ble_eq_true rfl) dX6_parse_3 ⟨Nat.zero_le _, Nat.zero_le _⟩) (fun H locs hw => ?_)
  refine p_f hw hf (by decide) (c_Tx E _) rfl inlX6 tyX6_ok nmX6 1 (by decide) rfl q949 rfl (ch_nf (b_X6_characterAt hch _)).1 (ch_nf (b_X6_characterAt hch _)).2 (Nat.le_of_ble_eq_true rfl) (s_Tx_1 E _ _) dX6_parse_6 (fun H locs hw => ?_)
  refine lv_aload_n hx hb dX6_parse_9 rfl (lv_at hl 0 rfl) ?_
  refine lv_iload_n hx hb dX6_parse_10 rfl (lv_at hl 1 rfl) ?_
  refine lv_iconst (v := 1) hx hb dX6_parse_11 (by decide) ?_
  refine lv_iadd hx hb dX6_parse_12 ?_
  refine p_f hw hf (by decide) (c_Tx E _) rfl inlX6 tyX6_ok nmX6 4 (by decide) rfl q950 rfl rfl rfl (Nat.le_of_ble_eq_true rfl) (s_Tx_4 E _ _) dX6_parse_13 (fun H locs hw => ?_)
  refine lv_aload_n hx hb dX6_parse_16 rfl (lv_at hl 0 rfl) ?_
  refine g_f hw hf (by decide) (c_Tx E _) rfl inlX6 1 (by decide) rfl q949 (congrArg (fun z => some (Value.int z)) (show _ = sp_X6_characterAt (μ.1 6)  w from (by first | (simp [pM, pJ, upM, upJ, sF, tN, tD, tR, tk_M, tk_K, tk_0, tk_1, tk_2, tk_3, tk_4, tk_5, tk_6, tk_7, tk_8, tk_9, tk_10, tk_o, ms_0_0, ms_0_1, ms_0_2, ms_0_3, ms_0_4, ms_0_5, ms_0_6, ms_0_7, ms_0_8, ms_0_9, ms_0_10, ms_1_0, ms_1_1, ms_1_2, ms_1_3, ms_1_4, ms_1_5, ms_1_6, ms_1_7, ms_1_8, ms_1_9, ms_1_10, ms_w, ms_r, ms_d, ms_M, ms_6, ms_K]; done) | (simp (disch := (first | omega | (simp only [tN, tD, tR, sF]; omega))) only [pM, pJ, upM_s, upM_k, upM_c, upJ_s, upJ_k, upJ_c, tk_M, tk_K, tk_0, tk_1, tk_2, tk_3, tk_4, tk_5, tk_6, tk_7, tk_8, tk_9, tk_10, tk_o, ms_0_0, ms_0_1, ms_0_2, ms_0_3, ms_0_4, ms_0_5, ms_0_6, ms_0_7, ms_0_8, ms_0_9, ms_0_10, ms_1_0, ms_1_1, ms_1_2, ms_1_3, ms_1_4, ms_1_5, ms_1_6, ms_1_7, ms_1_8, ms_1_9, ms_1_10, ms_w, ms_r, ms_d, ms_M, ms_6, ms_K])))) dX6_parse_17 ?_
  refine lv_bipush (v := 115) hx hb dX6_parse_20 (by decide) ?_
  refine lv_icmp_ne (tgt := 32) hx hb dX6_parse_22 (by decide) (fun c1 => ?_) (fun c1 => ?_)
  · refine lv_aload_n hx hb dX6_parse_32 rfl (lv_at hl 0 rfl) ?_
    refine g_f hw hf (by decide) (c_Tx E _) rfl inlX6 1 (by decide) rfl q949 (congrArg (fun z => some (Value.int z)) (show _ = sp_X6_characterAt (μ.1 6)  w from (by first | (simp [pM, pJ, upM, upJ, sF, tN, tD, tR, tk_M, tk_K, tk_0, tk_1, tk_2, tk_3, tk_4, tk_5, tk_6, tk_7, tk_8, tk_9, tk_10, tk_o, ms_0_0, ms_0_1, ms_0_2, ms_0_3, ms_0_4, ms_0_5, ms_0_6, ms_0_7, ms_0_8, ms_0_9, ms_0_10, ms_1_0, ms_1_1, ms_1_2, ms_1_3, ms_1_4, ms_1_5, ms_1_6, ms_1_7, ms_1_8, ms_1_9, ms_1_10, ms_w, ms_r, ms_d, ms_M, ms_6, ms_K]; done) | (simp (disch := (first | omega | (simp only [tN, tD, tR, sF]; omega))) only [pM, pJ, upM_s, upM_k, upM_c, upJ_s, upJ_k, upJ_c, tk_M, tk_K, tk_0, tk_1, tk_2, tk_3, tk_4, tk_5, tk_6, tk_7, tk_8, tk_9, tk_10, tk_o, ms_0_0, ms_0_1, ms_0_2, ms_0_3, ms_0_4, ms_0_5, ms_0_6, ms_0_7, ms_0_8, ms_0_9, ms_0_10, ms_1_0, ms_1_1, ms_1_2, ms_1_3, ms_1_4, ms_1_5, ms_1_6, ms_1_7, ms_1_8, ms_1_9, ms_1_10, ms_w, ms_r, ms_d, ms_M, ms_6, ms_K])))) dX6_parse_33 ?_
    refine lv_bipush (v := 116) hx hb dX6_parse_36 (by decide) ?_
    refine lv_icmp_eq (tgt := 70) hx hb dX6_parse_38 (by decide) (fun c2 => ?_) (fun c2 => ?_)
    · refine lv_aload_n hx hb dX6_parse_70 rfl (lv_at hl 0 rfl) ?_
      refine lv_aload_n hx hb dX6_parse_71 rfl (lv_at hl 0 rfl) ?_
      refine c_i hw (run_V (As := []) (rest := [.ref (E.1 (228))]) (np := 0) hf hw (k_X6_parsedDigits l E _    (ch_pM (ch_pM hch (by decide)) (by decide))) ⟨gl_V q960 q961 q962 q31 q963, by decide +kernel⟩ ⟨rfl, rfl, Nat.le_of_ble_eq_true rfl, Nat.le_of_ble_eq_true rfl⟩ (by decide) (c_Tx E _) rfl rfl hl.1 rfl (Nat.le_of_ble_eq_true rfl) dX6_parse_72 ⟨Nat.zero_le _, Nat.zero_le _⟩) (fun H locs hw => ?_)
      refine p_f hw hf (by decide) (c_Tx E _) rfl inlX6 tyX6_ok nmX6 2 (by decide) rfl q951 rfl rfl rfl (Nat.le_of_ble_eq_true rfl) (s_Tx_2 E _ _) dX6_parse_75 (fun H locs hw => ?_)
      refine lv_aload_n hx hb dX6_parse_78 rfl (lv_at hl 0 rfl) ?_
      refine g_f hw hf (by decide) (c_Tx E _) rfl inlX6 2 (by decide) rfl q951 (congrArg (fun z => some (Value.int z)) (show _ = (sp_X6_parsedDigits (pM (pM μ 6 4 (sp_X6_characterAt (μ.1 6)  w)) 6 7 (w + 1))  ).1 from (by first | (simp [pM, pJ, upM, upJ, sF, tN, tD, tR, tk_M, tk_K, tk_0, tk_1, tk_2, tk_3, tk_4, tk_5, tk_6, tk_7, tk_8, tk_9, tk_10, tk_o, ms_0_0, ms_0_1, ms_0_2, ms_0_3, ms_0_4, ms_0_5, ms_0_6, ms_0_7, ms_0_8, ms_0_9, ms_0_10, ms_1_0, ms_1_1, ms_1_2, ms_1_3, ms_1_4, ms_1_5, ms_1_6, ms_1_7, ms_1_8, ms_1_9, ms_1_10, ms_w, ms_r, ms_d, ms_M, ms_6, ms_K]; done) | (simp (disch := (first | omega | (simp only [tN, tD, tR, sF]; omega))) only [pM, pJ, upM_s, upM_k, upM_c, upJ_s, upJ_k, upJ_c, tk_M, tk_K, tk_0, tk_1, tk_2, tk_3, tk_4, tk_5, tk_6, tk_7, tk_8, tk_9, tk_10, tk_o, ms_0_0, ms_0_1, ms_0_2, ms_0_3, ms_0_4, ms_0_5, ms_0_6, ms_0_7, ms_0_8, ms_0_9, ms_0_10, ms_1_0, ms_1_1, ms_1_2, ms_1_3, ms_1_4, ms_1_5, ms_1_6, ms_1_7, ms_1_8, ms_1_9, ms_1_10, ms_w, ms_r, ms_d, ms_M, ms_6, ms_K])))) dX6_parse_79 ?_
      refine lv_if_ge (tgt := 87) hx hb dX6_parse_82 (by decide) (fun c3 => ?_) (fun c3 => ?_)
      · refine lv_aload_n hx hb dX6_parse_87 rfl (lv_at hl 0 rfl) ?_
        refine g_f hw hf (by decide) (c_Tx E _) rfl inlX6 1 (by decide) rfl q949 (congrArg (fun z => some (Value.int z)) (show _ = ((sp_X6_parsedDigits (pM (pM μ 6 4 (sp_X6_characterAt (μ.1 6)  w)) 6 7 (w + 1))  ).2).1 6 4 from (by first | (simp [pM, pJ, upM, upJ, sF, tN, tD, tR, tk_M, tk_K, tk_0, tk_1, tk_2, tk_3, tk_4, tk_5, tk_6, tk_7, tk_8, tk_9, tk_10, tk_o, ms_0_0, ms_0_1, ms_0_2, ms_0_3, ms_0_4, ms_0_5, ms_0_6, ms_0_7, ms_0_8, ms_0_9, ms_0_10, ms_1_0, ms_1_1, ms_1_2, ms_1_3, ms_1_4, ms_1_5, ms_1_6, ms_1_7, ms_1_8, ms_1_9, ms_1_10, ms_w, ms_r, ms_d, ms_M, ms_6, ms_K]; done) | (simp (disch := (first | omega | (simp only [tN, tD, tR, sF]; omega))) only [pM, pJ, upM_s, upM_k, upM_c, upJ_s, upJ_k, upJ_c, tk_M, tk_K, tk_0, tk_1, tk_2, tk_3, tk_4, tk_5, tk_6, tk_7, tk_8, tk_9, tk_10, tk_o, ms_0_0, ms_0_1, ms_0_2, ms_0_3, ms_0_4, ms_0_5, ms_0_6, ms_0_7, ms_0_8, ms_0_9, ms_0_10, ms_1_0, ms_1_1, ms_1_2, ms_1_3, ms_1_4, ms_1_5, ms_1_6, ms_1_7, ms_1_8, ms_1_9, ms_1_10, ms_w, ms_r, ms_d, ms_M, ms_6, ms_K])))) dX6_parse_88 ?_
        refine lv_bipush (v := 114) hx hb dX6_parse_91 (by decide) ?_
        refine lv_icmp_ne (tgt := 105) hx hb dX6_parse_93 (by decide) (fun c4 => ?_) (fun c4 => ?_)
        · refine lv_aload_n hx hb dX6_parse_105 rfl (lv_at hl 0 rfl) ?_
          refine c_i hw (run_V (As := []) (rest := []) (np := 0) hf hw (k_X6_parsesNumber l E _    (ch_pM (ch_X6_parsedDigits _ (ch_pM (ch_pM hch (by decide)) (by decide))) (by decide))) ⟨gl_V q964 q965 q966 q31 q967, by decide +kernel⟩ ⟨rfl, rfl, Nat.le_of_ble_eq_true rfl, Nat.le_of_ble_eq_true rfl⟩ (by decide) (c_Tx E _) rfl rfl hl.1 rfl (Nat.le_of_ble_eq_true rfl) dX6_parse_106 ⟨Nat.zero_le _, Nat.zero_le _⟩) (fun H locs hw => ?_)
          refine lv_if_eq (tgt := 125) hx hb dX6_parse_109 (by decide) (fun c5 => ?_) (fun c5 => ?_)
          · refine lv_iconst (v := 0) hx hb dX6_parse_125 (by decide) ?_
            exact e_i hf hr hlocks hw rfl ((if_neg c1).trans ((if_pos c2).trans ((if_pos c3).trans ((if_neg c4).trans ((if_pos c5).trans rfl))))) dX6_parse_126
          · refine lv_aload_n hx hb dX6_parse_112 rfl (lv_at hl 0 rfl) ?_
            refine lv_bipush (v := 59) hx hb dX6_parse_113 (by decide) ?_
            refine c_i hw (run_V (As := [.int 59]) (rest := []) (np := 1) hf hw (k_X6_takes l E _  (59 : Int32)  (ch_X6_parsesNumber _ (ch_pM (ch_X6_parsedDigits _ (ch_pM (ch_pM hch (by decide)) (by decide))) (by decide)))) ⟨gl_V q956 q957 q958 q31 q959, by decide +kernel⟩ ⟨rfl, rfl, Nat.le_of_ble_eq_true rfl, Nat.le_of_ble_eq_true rfl⟩ (by decide) (c_Tx E _) rfl rfl hl.1 rfl (Nat.le_of_ble_eq_true rfl) dX6_parse_115 ⟨Nat.zero_le _, Nat.zero_le _⟩) (fun H locs hw => ?_)
            refine lv_if_eq (tgt := 125) hx hb dX6_parse_118 (by decide) (fun c6 => ?_) (fun c6 => ?_)
            · refine lv_iconst (v := 0) hx hb dX6_parse_125 (by decide) ?_
              exact e_i hf hr hlocks hw rfl ((if_neg c1).trans ((if_pos c2).trans ((if_pos c3).trans ((if_neg c4).trans ((if_neg c5).trans ((if_pos c6).trans rfl)))))) dX6_parse_126
            · refine lv_iconst (v := 1) hx hb dX6_parse_121 (by decide) ?_
              refine lv_goto (tgt := 126) hx hb dX6_parse_122 (by decide) ?_
              exact e_i hf hr hlocks hw rfl ((if_neg c1).trans ((if_pos c2).trans ((if_pos c3).trans ((if_neg c4).trans ((if_neg c5).trans ((if_neg c6).trans rfl)))))) dX6_parse_126
        · refine lv_aload_n hx hb dX6_parse_96 rfl (lv_at hl 0 rfl) ?_
          refine lv_bipush (v := 59) hx hb dX6_parse_97 (by decide) ?_
          refine c_i hw (run_V (As := [.int 59]) (rest := []) (np := 1) hf hw (k_X6_takes l E _  (59 : Int32)  (ch_pM (ch_X6_parsedDigits _ (ch_pM (ch_pM hch (by decide)) (by decide))) (by decide))) ⟨gl_V q956 q957 q958 q31 q959, by decide +kernel⟩ ⟨rfl, rfl, Nat.le_of_ble_eq_true rfl, Nat.le_of_ble_eq_true rfl⟩ (by decide) (c_Tx E _) rfl rfl hl.1 rfl (Nat.le_of_ble_eq_true rfl) dX6_parse_99 ⟨Nat.zero_le _, Nat.zero_le _⟩) (fun H locs hw => ?_)
          refine lv_goto (tgt := 126) hx hb dX6_parse_102 (by decide) ?_
          exact e_i hf hr hlocks hw (nb_takes _ _) ((if_neg c1).trans ((if_pos c2).trans ((if_pos c3).trans ((if_pos c4).trans rfl)))) dX6_parse_126
      · refine lv_iconst (v := 0) hx hb dX6_parse_85 (by decide) ?_
        exact e_i hf hr hlocks hw rfl ((if_neg c1).trans ((if_pos c2).trans ((if_neg c3).trans rfl))) dX6_parse_86
    · refine lv_aload_n hx hb dX6_parse_41 rfl (lv_at hl 0 rfl) ?_
      refine g_f hw hf (by decide) (c_Tx E _) rfl inlX6 1 (by decide) rfl q949 (congrArg (fun z => some (Value.int z)) (show _ = sp_X6_characterAt (μ.1 6)  w from (by first | (simp [pM, pJ, upM, upJ, sF, tN, tD, tR, tk_M, tk_K, tk_0, tk_1, tk_2, tk_3, tk_4, tk_5, tk_6, tk_7, tk_8, tk_9, tk_10, tk_o, ms_0_0, ms_0_1, ms_0_2, ms_0_3, ms_0_4, ms_0_5, ms_0_6, ms_0_7, ms_0_8, ms_0_9, ms_0_10, ms_1_0, ms_1_1, ms_1_2, ms_1_3, ms_1_4, ms_1_5, ms_1_6, ms_1_7, ms_1_8, ms_1_9, ms_1_10, ms_w, ms_r, ms_d, ms_M, ms_6, ms_K]; done) | (simp (disch := (first | omega | (simp only [tN, tD, tR, sF]; omega))) only [pM, pJ, upM_s, upM_k, upM_c, upJ_s, upJ_k, upJ_c, tk_M, tk_K, tk_0, tk_1, tk_2, tk_3, tk_4, tk_5, tk_6, tk_7, tk_8, tk_9, tk_10, tk_o, ms_0_0, ms_0_1, ms_0_2, ms_0_3, ms_0_4, ms_0_5, ms_0_6, ms_0_7, ms_0_8, ms_0_9, ms_0_10, ms_1_0, ms_1_1, ms_1_2, ms_1_3, ms_1_4, ms_1_5, ms_1_6, ms_1_7, ms_1_8, ms_1_9, ms_1_10, ms_w, ms_r, ms_d, ms_M, ms_6, ms_K])))) dX6_parse_42 ?_
      refine lv_bipush (v := 114) hx hb dX6_parse_45 (by decide) ?_
      refine lv_icmp_eq (tgt := 70) hx hb dX6_parse_47 (by decide) (fun c7 => ?_) (fun c7 => ?_)
      · refine lv_aload_n hx hb dX6_parse_70 rfl (lv_at hl 0 rfl) ?_
        refine lv_aload_n hx hb dX6_parse_71 rfl (lv_at hl 0 rfl) ?_
        refine c_i hw (run_V (As := []) (rest := [.ref (E.1 (228))]) (np := 0) hf hw (k_X6_parsedDigits l E _    (ch_pM (ch_pM hch (by decide)) (by decide))) ⟨gl_V q960 q961 q962 q31 q963, by decide +kernel⟩ ⟨rfl, rfl, Nat.le_of_ble_eq_true rfl, Nat.le_of_ble_eq_true rfl⟩ (by decide) (c_Tx E _) rfl rfl hl.1 rfl (Nat.le_of_ble_eq_true rfl) dX6_parse_72 ⟨Nat.zero_le _, Nat.zero_le _⟩) (fun H locs hw => ?_)
        refine p_f hw hf (by decide) (c_Tx E _) rfl inlX6 tyX6_ok nmX6 2 (by decide) rfl q951 rfl rfl rfl (Nat.le_of_ble_eq_true rfl) (s_Tx_2 E _ _) dX6_parse_75 (fun H locs hw => ?_)
        refine lv_aload_n hx hb dX6_parse_78 rfl (lv_at hl 0 rfl) ?_
        refine g_f hw hf (by decide) (c_Tx E _) rfl inlX6 2 (by decide) rfl q951 (congrArg (fun z => some (Value.int z)) (show _ = (sp_X6_parsedDigits (pM (pM μ 6 4 (sp_X6_characterAt (μ.1 6)  w)) 6 7 (w + 1))  ).1 from (by first | (simp [pM, pJ, upM, upJ, sF, tN, tD, tR, tk_M, tk_K, tk_0, tk_1, tk_2, tk_3, tk_4, tk_5, tk_6, tk_7, tk_8, tk_9, tk_10, tk_o, ms_0_0, ms_0_1, ms_0_2, ms_0_3, ms_0_4, ms_0_5, ms_0_6, ms_0_7, ms_0_8, ms_0_9, ms_0_10, ms_1_0, ms_1_1, ms_1_2, ms_1_3, ms_1_4, ms_1_5, ms_1_6, ms_1_7, ms_1_8, ms_1_9, ms_1_10, ms_w, ms_r, ms_d, ms_M, ms_6, ms_K]; done) | (simp (disch := (first | omega | (simp only [tN, tD, tR, sF]; omega))) only [pM, pJ, upM_s, upM_k, upM_c, upJ_s, upJ_k, upJ_c, tk_M, tk_K, tk_0, tk_1, tk_2, tk_3, tk_4, tk_5, tk_6, tk_7, tk_8, tk_9, tk_10, tk_o, ms_0_0, ms_0_1, ms_0_2, ms_0_3, ms_0_4, ms_0_5, ms_0_6, ms_0_7, ms_0_8, ms_0_9, ms_0_10, ms_1_0, ms_1_1, ms_1_2, ms_1_3, ms_1_4, ms_1_5, ms_1_6, ms_1_7, ms_1_8, ms_1_9, ms_1_10, ms_w, ms_r, ms_d, ms_M, ms_6, ms_K])))) dX6_parse_79 ?_
        refine lv_if_ge (tgt := 87) hx hb dX6_parse_82 (by decide) (fun c8 => ?_) (fun c8 => ?_)
        · refine lv_aload_n hx hb dX6_parse_87 rfl (lv_at hl 0 rfl) ?_
          refine g_f hw hf (by decide) (c_Tx E _) rfl inlX6 1 (by decide) rfl q949 (congrArg (fun z => some (Value.int z)) (show _ = ((sp_X6_parsedDigits (pM (pM μ 6 4 (sp_X6_characterAt (μ.1 6)  w)) 6 7 (w + 1))  ).2).1 6 4 from (by first | (simp [pM, pJ, upM, upJ, sF, tN, tD, tR, tk_M, tk_K, tk_0, tk_1, tk_2, tk_3, tk_4, tk_5, tk_6, tk_7, tk_8, tk_9, tk_10, tk_o, ms_0_0, ms_0_1, ms_0_2, ms_0_3, ms_0_4, ms_0_5, ms_0_6, ms_0_7, ms_0_8, ms_0_9, ms_0_10, ms_1_0, ms_1_1, ms_1_2, ms_1_3, ms_1_4, ms_1_5, ms_1_6, ms_1_7, ms_1_8, ms_1_9, ms_1_10, ms_w, ms_r, ms_d, ms_M, ms_6, ms_K]; done) | (simp (disch := (first | omega | (simp only [tN, tD, tR, sF]; omega))) only [pM, pJ, upM_s, upM_k, upM_c, upJ_s, upJ_k, upJ_c, tk_M, tk_K, tk_0, tk_1, tk_2, tk_3, tk_4, tk_5, tk_6, tk_7, tk_8, tk_9, tk_10, tk_o, ms_0_0, ms_0_1, ms_0_2, ms_0_3, ms_0_4, ms_0_5, ms_0_6, ms_0_7, ms_0_8, ms_0_9, ms_0_10, ms_1_0, ms_1_1, ms_1_2, ms_1_3, ms_1_4, ms_1_5, ms_1_6, ms_1_7, ms_1_8, ms_1_9, ms_1_10, ms_w, ms_r, ms_d, ms_M, ms_6, ms_K])))) dX6_parse_88 ?_
          refine lv_bipush (v := 114) hx hb dX6_parse_91 (by decide) ?_
          refine lv_icmp_ne (tgt := 105) hx hb dX6_parse_93 (by decide) (fun c9 => ?_) (fun c9 => ?_)
          · refine lv_aload_n hx hb dX6_parse_105 rfl (lv_at hl 0 rfl) ?_
            refine c_i hw (run_V (As := []) (rest := []) (np := 0) hf hw (k_X6_parsesNumber l E _    (ch_pM (ch_X6_parsedDigits _ (ch_pM (ch_pM hch (by decide)) (by decide))) (by decide))) ⟨gl_V q964 q965 q966 q31 q967, by decide +kernel⟩ ⟨rfl, rfl, Nat.le_of_ble_eq_true rfl, Nat.le_of_ble_eq_true rfl⟩ (by decide) (c_Tx E _) rfl rfl hl.1 rfl (Nat.le_of_ble_eq_true rfl) dX6_parse_106 ⟨Nat.zero_le _, Nat.zero_le _⟩) (fun H locs hw => ?_)
            refine lv_if_eq (tgt := 125) hx hb dX6_parse_109 (by decide) (fun c10 => ?_) (fun c10 => ?_)
            · refine lv_iconst (v := 0) hx hb dX6_parse_125 (by decide) ?_
              exact e_i hf hr hlocks hw rfl ((if_neg c1).trans ((if_neg c2).trans ((if_pos c7).trans ((if_pos c8).trans ((if_neg c9).trans ((if_pos c10).trans rfl)))))) dX6_parse_126
            · refine lv_aload_n hx hb dX6_parse_112 rfl (lv_at hl 0 rfl) ?_
              refine lv_bipush (v := 59) hx hb dX6_parse_113 (by decide) ?_
              refine c_i hw (run_V (As := [.int 59]) (rest := []) (np := 1) hf hw (k_X6_takes l E _  (59 : Int32)  (ch_X6_parsesNumber _ (ch_pM (ch_X6_parsedDigits _ (ch_pM (ch_pM hch (by decide)) (by decide))) (by decide)))) ⟨gl_V q956 q957 q958 q31 q959, by decide +kernel⟩ ⟨rfl, rfl, Nat.le_of_ble_eq_true rfl, Nat.le_of_ble_eq_true rfl⟩ (by decide) (c_Tx E _) rfl rfl hl.1 rfl (Nat.le_of_ble_eq_true rfl) dX6_parse_115 ⟨Nat.zero_le _, Nat.zero_le _⟩) (fun H locs hw => ?_)
              refine lv_if_eq (tgt := 125) hx hb dX6_parse_118 (by decide) (fun c11 => ?_) (fun c11 => ?_)
              · refine lv_iconst (v := 0) hx hb dX6_parse_125 (by decide) ?_
                exact e_i hf hr hlocks hw rfl ((if_neg c1).trans ((if_neg c2).trans ((if_pos c7).trans ((if_pos c8).trans ((if_neg c9).trans ((if_neg c10).trans ((if_pos c11).trans rfl))))))) dX6_parse_126
              · refine lv_iconst (v := 1) hx hb dX6_parse_121 (by decide) ?_
                refine lv_goto (tgt := 126) hx hb dX6_parse_122 (by decide) ?_
                exact e_i hf hr hlocks hw rfl ((if_neg c1).trans ((if_neg c2).trans ((if_pos c7).trans ((if_pos c8).trans ((if_neg c9).trans ((if_neg c10).trans ((if_neg c11).trans rfl))))))) dX6_parse_126
          · refine lv_aload_n hx hb dX6_parse_96 rfl (lv_at hl 0 rfl) ?_
            refine lv_bipush (v := 59) hx hb dX6_parse_97 (by decide) ?_
            refine c_i hw (run_V (As := [.int 59]) (rest := []) (np := 1) hf hw (k_X6_takes l E _  (59 : Int32)  (ch_pM (ch_X6_parsedDigits _ (ch_pM (ch_pM hch (by decide)) (by decide))) (by decide))) ⟨gl_V q956 q957 q958 q31 q959, by decide +kernel⟩ ⟨rfl, rfl, Nat.le_of_ble_eq_true rfl, Nat.le_of_ble_eq_true rfl⟩ (by decide) (c_Tx E _) rfl rfl hl.1 rfl (Nat.le_of_ble_eq_true rfl) dX6_parse_99 ⟨Nat.zero_le _, Nat.zero_le _⟩) (fun H locs hw => ?_)
            refine lv_goto (tgt := 126) hx hb dX6_parse_102 (by decide) ?_
            exact e_i hf hr hlocks hw (nb_takes _ _) ((if_neg c1).trans ((if_neg c2).trans ((if_pos c7).trans ((if_pos c8).trans ((if_pos c9).trans rfl))))) dX6_parse_126
        · refine lv_iconst (v := 0) hx hb dX6_parse_85 (by decide) ?_
          exact e_i hf hr hlocks hw rfl ((if_neg c1).trans ((if_neg c2).trans ((if_pos c7).trans ((if_neg c8).trans rfl)))) dX6_parse_86
      · refine lv_aload_n hx hb dX6_parse_50 rfl (lv_at hl 0 rfl) ?_
        refine g_f hw hf (by decide) (c_Tx E _) rfl inlX6 1 (by decide) rfl q949 (congrArg (fun z => some (Value.int z)) (show _ = sp_X6_characterAt (μ.1 6)  w from (by first | (simp [pM, pJ, upM, upJ, sF, tN, tD, tR, tk_M, tk_K, tk_0, tk_1, tk_2, tk_3, tk_4, tk_5, tk_6, tk_7, tk_8, tk_9, tk_10, tk_o, ms_0_0, ms_0_1, ms_0_2, ms_0_3, ms_0_4, ms_0_5, ms_0_6, ms_0_7, ms_0_8, ms_0_9, ms_0_10, ms_1_0, ms_1_1, ms_1_2, ms_1_3, ms_1_4, ms_1_5, ms_1_6, ms_1_7, ms_1_8, ms_1_9, ms_1_10, ms_w, ms_r, ms_d, ms_M, ms_6, ms_K]; done) | (simp (disch := (first | omega | (simp only [tN, tD, tR, sF]; omega))) only [pM, pJ, upM_s, upM_k, upM_c, upJ_s, upJ_k, upJ_c, tk_M, tk_K, tk_0, tk_1, tk_2, tk_3, tk_4, tk_5, tk_6, tk_7, tk_8, tk_9, tk_10, tk_o, ms_0_0, ms_0_1, ms_0_2, ms_0_3, ms_0_4, ms_0_5, ms_0_6, ms_0_7, ms_0_8, ms_0_9, ms_0_10, ms_1_0, ms_1_1, ms_1_2, ms_1_3, ms_1_4, ms_1_5, ms_1_6, ms_1_7, ms_1_8, ms_1_9, ms_1_10, ms_w, ms_r, ms_d, ms_M, ms_6, ms_K])))) dX6_parse_51 ?_
        refine lv_bipush (v := 98) hx hb dX6_parse_54 (by decide) ?_
        refine lv_icmp_eq (tgt := 70) hx hb dX6_parse_56 (by decide) (fun c12 => ?_) (fun c12 => ?_)
        · refine lv_aload_n hx hb dX6_parse_70 rfl (lv_at hl 0 rfl) ?_
          refine lv_aload_n hx hb dX6_parse_71 rfl (lv_at hl 0 rfl) ?_
          refine c_i hw (run_V (As := []) (rest := [.ref (E.1 (228))]) (np := 0) hf hw (k_X6_parsedDigits l E _    (ch_pM (ch_pM hch (by decide)) (by decide))) ⟨gl_V q960 q961 q962 q31 q963, by decide +kernel⟩ ⟨rfl, rfl, Nat.le_of_ble_eq_true rfl, Nat.le_of_ble_eq_true rfl⟩ (by decide) (c_Tx E _) rfl rfl hl.1 rfl (Nat.le_of_ble_eq_true rfl) dX6_parse_72 ⟨Nat.zero_le _, Nat.zero_le _⟩) (fun H locs hw => ?_)
          refine p_f hw hf (by decide) (c_Tx E _) rfl inlX6 tyX6_ok nmX6 2 (by decide) rfl q951 rfl rfl rfl (Nat.le_of_ble_eq_true rfl) (s_Tx_2 E _ _) dX6_parse_75 (fun H locs hw => ?_)
          refine lv_aload_n hx hb dX6_parse_78 rfl (lv_at hl 0 rfl) ?_
          refine g_f hw hf (by decide) (c_Tx E _) rfl inlX6 2 (by decide) rfl q951 (congrArg (fun z => some (Value.int z)) (show _ = (sp_X6_parsedDigits (pM (pM μ 6 4 (sp_X6_characterAt (μ.1 6)  w)) 6 7 (w + 1))  ).1 from (by first | (simp [pM, pJ, upM, upJ, sF, tN, tD, tR, tk_M, tk_K, tk_0, tk_1, tk_2, tk_3, tk_4, tk_5, tk_6, tk_7, tk_8, tk_9, tk_10, tk_o, ms_0_0, ms_0_1, ms_0_2, ms_0_3, ms_0_4, ms_0_5, ms_0_6, ms_0_7, ms_0_8, ms_0_9, ms_0_10, ms_1_0, ms_1_1, ms_1_2, ms_1_3, ms_1_4, ms_1_5, ms_1_6, ms_1_7, ms_1_8, ms_1_9, ms_1_10, ms_w, ms_r, ms_d, ms_M, ms_6, ms_K]; done) | (simp (disch := (first | omega | (simp only [tN, tD, tR, sF]; omega))) only [pM, pJ, upM_s, upM_k, upM_c, upJ_s, upJ_k, upJ_c, tk_M, tk_K, tk_0, tk_1, tk_2, tk_3, tk_4, tk_5, tk_6, tk_7, tk_8, tk_9, tk_10, tk_o, ms_0_0, ms_0_1, ms_0_2, ms_0_3, ms_0_4, ms_0_5, ms_0_6, ms_0_7, ms_0_8, ms_0_9, ms_0_10, ms_1_0, ms_1_1, ms_1_2, ms_1_3, ms_1_4, ms_1_5, ms_1_6, ms_1_7, ms_1_8, ms_1_9, ms_1_10, ms_w, ms_r, ms_d, ms_M, ms_6, ms_K])))) dX6_parse_79 ?_
          refine lv_if_ge (tgt := 87) hx hb dX6_parse_82 (by decide) (fun c13 => ?_) (fun c13 => ?_)
          · refine lv_aload_n hx hb dX6_parse_87 rfl (lv_at hl 0 rfl) ?_
            refine g_f hw hf (by decide) (c_Tx E _) rfl inlX6 1 (by decide) rfl q949 (congrArg (fun z => some (Value.int z)) (show _ = ((sp_X6_parsedDigits (pM (pM μ 6 4 (sp_X6_characterAt (μ.1 6)  w)) 6 7 (w + 1))  ).2).1 6 4 from (by first | (simp [pM, pJ, upM, upJ, sF, tN, tD, tR, tk_M, tk_K, tk_0, tk_1, tk_2, tk_3, tk_4, tk_5, tk_6, tk_7, tk_8, tk_9, tk_10, tk_o, ms_0_0, ms_0_1, ms_0_2, ms_0_3, ms_0_4, ms_0_5, ms_0_6, ms_0_7, ms_0_8, ms_0_9, ms_0_10, ms_1_0, ms_1_1, ms_1_2, ms_1_3, ms_1_4, ms_1_5, ms_1_6, ms_1_7, ms_1_8, ms_1_9, ms_1_10, ms_w, ms_r, ms_d, ms_M, ms_6, ms_K]; done) | (simp (disch := (first | omega | (simp only [tN, tD, tR, sF]; omega))) only [pM, pJ, upM_s, upM_k, upM_c, upJ_s, upJ_k, upJ_c, tk_M, tk_K, tk_0, tk_1, tk_2, tk_3, tk_4, tk_5, tk_6, tk_7, tk_8, tk_9, tk_10, tk_o, ms_0_0, ms_0_1, ms_0_2, ms_0_3, ms_0_4, ms_0_5, ms_0_6, ms_0_7, ms_0_8, ms_0_9, ms_0_10, ms_1_0, ms_1_1, ms_1_2, ms_1_3, ms_1_4, ms_1_5, ms_1_6, ms_1_7, ms_1_8, ms_1_9, ms_1_10, ms_w, ms_r, ms_d, ms_M, ms_6, ms_K])))) dX6_parse_88 ?_
            refine lv_bipush (v := 114) hx hb dX6_parse_91 (by decide) ?_
            refine lv_icmp_ne (tgt := 105) hx hb dX6_parse_93 (by decide) (fun c14 => ?_) (fun c14 => ?_)
            · refine lv_aload_n hx hb dX6_parse_105 rfl (lv_at hl 0 rfl) ?_
              refine c_i hw (run_V (As := []) (rest := []) (np := 0) hf hw (k_X6_parsesNumber l E _    (ch_pM (ch_X6_parsedDigits _ (ch_pM (ch_pM hch (by decide)) (by decide))) (by decide))) ⟨gl_V q964 q965 q966 q31 q967, by decide +kernel⟩ ⟨rfl, rfl, Nat.le_of_ble_eq_true rfl, Nat.le_of_ble_eq_true rfl⟩ (by decide) (c_Tx E _) rfl rfl hl.1 rfl (Nat.le_of_ble_eq_true rfl) dX6_parse_106 ⟨Nat.zero_le _, Nat.zero_le _⟩) (fun H locs hw => ?_)
              refine lv_if_eq (tgt := 125) hx hb dX6_parse_109 (by decide) (fun c15 => ?_) (fun c15 => ?_)
              · refine lv_iconst (v := 0) hx hb dX6_parse_125 (by decide) ?_
                exact e_i hf hr hlocks hw rfl ((if_neg c1).trans ((if_neg c2).trans ((if_neg c7).trans ((if_pos c12).trans ((if_pos c13).trans ((if_neg c14).trans ((if_pos c15).trans rfl))))))) dX6_parse_126
              · refine lv_aload_n hx hb dX6_parse_112 rfl (lv_at hl 0 rfl) ?_
                refine lv_bipush (v := 59) hx hb dX6_parse_113 (by decide) ?_
                refine c_i hw (run_V (As := [.int 59]) (rest := []) (np := 1) hf hw (k_X6_takes l E _  (59 : Int32)  (ch_X6_parsesNumber _ (ch_pM (ch_X6_parsedDigits _ (ch_pM (ch_pM hch (by decide)) (by decide))) (by decide)))) ⟨gl_V q956 q957 q958 q31 q959, by decide +kernel⟩ ⟨rfl, rfl, Nat.le_of_ble_eq_true rfl, Nat.le_of_ble_eq_true rfl⟩ (by decide) (c_Tx E _) rfl rfl hl.1 rfl (Nat.le_of_ble_eq_true rfl) dX6_parse_115 ⟨Nat.zero_le _, Nat.zero_le _⟩) (fun H locs hw => ?_)
                refine lv_if_eq (tgt := 125) hx hb dX6_parse_118 (by decide) (fun c16 => ?_) (fun c16 => ?_)
                · refine lv_iconst (v := 0) hx hb dX6_parse_125 (by decide) ?_
                  exact e_i hf hr hlocks hw rfl ((if_neg c1).trans ((if_neg c2).trans ((if_neg c7).trans ((if_pos c12).trans ((if_pos c13).trans ((if_neg c14).trans ((if_neg c15).trans ((if_pos c16).trans rfl)))))))) dX6_parse_126
                · refine lv_iconst (v := 1) hx hb dX6_parse_121 (by decide) ?_
                  refine lv_goto (tgt := 126) hx hb dX6_parse_122 (by decide) ?_
                  exact e_i hf hr hlocks hw rfl ((if_neg c1).trans ((if_neg c2).trans ((if_neg c7).trans ((if_pos c12).trans ((if_pos c13).trans ((if_neg c14).trans ((if_neg c15).trans ((if_neg c16).trans rfl)))))))) dX6_parse_126
            · refine lv_aload_n hx hb dX6_parse_96 rfl (lv_at hl 0 rfl) ?_
              refine lv_bipush (v := 59) hx hb dX6_parse_97 (by decide) ?_
              refine c_i hw (run_V (As := [.int 59]) (rest := []) (np := 1) hf hw (k_X6_takes l E _  (59 : Int32)  (ch_pM (ch_X6_parsedDigits _ (ch_pM (ch_pM hch (by decide)) (by decide))) (by decide))) ⟨gl_V q956 q957 q958 q31 q959, by decide +kernel⟩ ⟨rfl, rfl, Nat.le_of_ble_eq_true rfl, Nat.le_of_ble_eq_true rfl⟩ (by decide) (c_Tx E _) rfl rfl hl.1 rfl (Nat.le_of_ble_eq_true rfl) dX6_parse_99 ⟨Nat.zero_le _, Nat.zero_le _⟩) (fun H locs hw => ?_)
              refine lv_goto (tgt := 126) hx hb dX6_parse_102 (by decide) ?_
              exact e_i hf hr hlocks hw (nb_takes _ _) ((if_neg c1).trans ((if_neg c2).trans ((if_neg c7).trans ((if_pos c12).trans ((if_pos c13).trans ((if_pos c14).trans rfl)))))) dX6_parse_126
          · refine lv_iconst (v := 0) hx hb dX6_parse_85 (by decide) ?_
            exact e_i hf hr hlocks hw rfl ((if_neg c1).trans ((if_neg c2).trans ((if_neg c7).trans ((if_pos c12).trans ((if_neg c13).trans rfl))))) dX6_parse_86
        · refine lv_aload_n hx hb dX6_parse_59 rfl (lv_at hl 0 rfl) ?_
          refine g_f hw hf (by decide) (c_Tx E _) rfl inlX6 1 (by decide) rfl q949 (congrArg (fun z => some (Value.int z)) (show _ = sp_X6_characterAt (μ.1 6)  w from (by first | (simp [pM, pJ, upM, upJ, sF, tN, tD, tR, tk_M, tk_K, tk_0, tk_1, tk_2, tk_3, tk_4, tk_5, tk_6, tk_7, tk_8, tk_9, tk_10, tk_o, ms_0_0, ms_0_1, ms_0_2, ms_0_3, ms_0_4, ms_0_5, ms_0_6, ms_0_7, ms_0_8, ms_0_9, ms_0_10, ms_1_0, ms_1_1, ms_1_2, ms_1_3, ms_1_4, ms_1_5, ms_1_6, ms_1_7, ms_1_8, ms_1_9, ms_1_10, ms_w, ms_r, ms_d, ms_M, ms_6, ms_K]; done) | (simp (disch := (first | omega | (simp only [tN, tD, tR, sF]; omega))) only [pM, pJ, upM_s, upM_k, upM_c, upJ_s, upJ_k, upJ_c, tk_M, tk_K, tk_0, tk_1, tk_2, tk_3, tk_4, tk_5, tk_6, tk_7, tk_8, tk_9, tk_10, tk_o, ms_0_0, ms_0_1, ms_0_2, ms_0_3, ms_0_4, ms_0_5, ms_0_6, ms_0_7, ms_0_8, ms_0_9, ms_0_10, ms_1_0, ms_1_1, ms_1_2, ms_1_3, ms_1_4, ms_1_5, ms_1_6, ms_1_7, ms_1_8, ms_1_9, ms_1_10, ms_w, ms_r, ms_d, ms_M, ms_6, ms_K])))) dX6_parse_60 ?_
          refine lv_bipush (v := 109) hx hb dX6_parse_63 (by decide) ?_
          refine lv_icmp_eq (tgt := 70) hx hb dX6_parse_65 (by decide) (fun c17 => ?_) (fun c17 => ?_)
          · refine lv_aload_n hx hb dX6_parse_70 rfl (lv_at hl 0 rfl) ?_
            refine lv_aload_n hx hb dX6_parse_71 rfl (lv_at hl 0 rfl) ?_
            refine c_i hw (run_V (As := []) (rest := [.ref (E.1 (228))]) (np := 0) hf hw (k_X6_parsedDigits l E _    (ch_pM (ch_pM hch (by decide)) (by decide))) ⟨gl_V q960 q961 q962 q31 q963, by decide +kernel⟩ ⟨rfl, rfl, Nat.le_of_ble_eq_true rfl, Nat.le_of_ble_eq_true rfl⟩ (by decide) (c_Tx E _) rfl rfl hl.1 rfl (Nat.le_of_ble_eq_true rfl) dX6_parse_72 ⟨Nat.zero_le _, Nat.zero_le _⟩) (fun H locs hw => ?_)
            refine p_f hw hf (by decide) (c_Tx E _) rfl inlX6 tyX6_ok nmX6 2 (by decide) rfl q951 rfl rfl rfl (Nat.le_of_ble_eq_true rfl) (s_Tx_2 E _ _) dX6_parse_75 (fun H locs hw => ?_)
            refine lv_aload_n hx hb dX6_parse_78 rfl (lv_at hl 0 rfl) ?_
            refine g_f hw hf (by decide) (c_Tx E _) rfl inlX6 2 (by decide) rfl q951 (congrArg (fun z => some (Value.int z)) (show _ = (sp_X6_parsedDigits (pM (pM μ 6 4 (sp_X6_characterAt (μ.1 6)  w)) 6 7 (w + 1))  ).1 from (by first | (simp [pM, pJ, upM, upJ, sF, tN, tD, tR, tk_M, tk_K, tk_0, tk_1, tk_2, tk_3, tk_4, tk_5, tk_6, tk_7, tk_8, tk_9, tk_10, tk_o, ms_0_0, ms_0_1, ms_0_2, ms_0_3, ms_0_4, ms_0_5, ms_0_6, ms_0_7, ms_0_8, ms_0_9, ms_0_10, ms_1_0, ms_1_1, ms_1_2, ms_1_3, ms_1_4, ms_1_5, ms_1_6, ms_1_7, ms_1_8, ms_1_9, ms_1_10, ms_w, ms_r, ms_d, ms_M, ms_6, ms_K]; done) | (simp (disch := (first | omega | (simp only [tN, tD, tR, sF]; omega))) only [pM, pJ, upM_s, upM_k, upM_c, upJ_s, upJ_k, upJ_c, tk_M, tk_K, tk_0, tk_1, tk_2, tk_3, tk_4, tk_5, tk_6, tk_7, tk_8, tk_9, tk_10, tk_o, ms_0_0, ms_0_1, ms_0_2, ms_0_3, ms_0_4, ms_0_5, ms_0_6, ms_0_7, ms_0_8, ms_0_9, ms_0_10, ms_1_0, ms_1_1, ms_1_2, ms_1_3, ms_1_4, ms_1_5, ms_1_6, ms_1_7, ms_1_8, ms_1_9, ms_1_10, ms_w, ms_r, ms_d, ms_M, ms_6, ms_K])))) dX6_parse_79 ?_
            refine lv_if_ge (tgt := 87) hx hb dX6_parse_82 (by decide) (fun c18 => ?_) (fun c18 => ?_)
            · refine lv_aload_n hx hb dX6_parse_87 rfl (lv_at hl 0 rfl) ?_
              refine g_f hw hf (by decide) (c_Tx E _) rfl inlX6 1 (by decide) rfl q949 (congrArg (fun z => some (Value.int z)) (show _ = ((sp_X6_parsedDigits (pM (pM μ 6 4 (sp_X6_characterAt (μ.1 6)  w)) 6 7 (w + 1))  ).2).1 6 4 from (by first | (simp [pM, pJ, upM, upJ, sF, tN, tD, tR, tk_M, tk_K, tk_0, tk_1, tk_2, tk_3, tk_4, tk_5, tk_6, tk_7, tk_8, tk_9, tk_10, tk_o, ms_0_0, ms_0_1, ms_0_2, ms_0_3, ms_0_4, ms_0_5, ms_0_6, ms_0_7, ms_0_8, ms_0_9, ms_0_10, ms_1_0, ms_1_1, ms_1_2, ms_1_3, ms_1_4, ms_1_5, ms_1_6, ms_1_7, ms_1_8, ms_1_9, ms_1_10, ms_w, ms_r, ms_d, ms_M, ms_6, ms_K]; done) | (simp (disch := (first | omega | (simp only [tN, tD, tR, sF]; omega))) only [pM, pJ, upM_s, upM_k, upM_c, upJ_s, upJ_k, upJ_c, tk_M, tk_K, tk_0, tk_1, tk_2, tk_3, tk_4, tk_5, tk_6, tk_7, tk_8, tk_9, tk_10, tk_o, ms_0_0, ms_0_1, ms_0_2, ms_0_3, ms_0_4, ms_0_5, ms_0_6, ms_0_7, ms_0_8, ms_0_9, ms_0_10, ms_1_0, ms_1_1, ms_1_2, ms_1_3, ms_1_4, ms_1_5, ms_1_6, ms_1_7, ms_1_8, ms_1_9, ms_1_10, ms_w, ms_r, ms_d, ms_M, ms_6, ms_K])))) dX6_parse_88 ?_
              refine lv_bipush (v := 114) hx hb dX6_parse_91 (by decide) ?_
              refine lv_icmp_ne (tgt := 105) hx hb dX6_parse_93 (by decide) (fun c19 => ?_) (fun c19 => ?_)
              · refine lv_aload_n hx hb dX6_parse_105 rfl (lv_at hl 0 rfl) ?_
                refine c_i hw (run_V (As := []) (rest := []) (np := 0) hf hw (k_X6_parsesNumber l E _    (ch_pM (ch_X6_parsedDigits _ (ch_pM (ch_pM hch (by decide)) (by decide))) (by decide))) ⟨gl_V q964 q965 q966 q31 q967, by decide +kernel⟩ ⟨rfl, rfl, Nat.le_of_ble_eq_true rfl, Nat.le_of_ble_eq_true rfl⟩ (by decide) (c_Tx E _) rfl rfl hl.1 rfl (Nat.le_of_ble_eq_true rfl) dX6_parse_106 ⟨Nat.zero_le _, Nat.zero_le _⟩) (fun H locs hw => ?_)
                refine lv_if_eq (tgt := 125) hx hb dX6_parse_109 (by decide) (fun c20 => ?_) (fun c20 => ?_)
                · refine lv_iconst (v := 0) hx hb dX6_parse_125 (by decide) ?_
                  exact e_i hf hr hlocks hw rfl ((if_neg c1).trans ((if_neg c2).trans ((if_neg c7).trans ((if_neg c12).trans ((if_pos c17).trans ((if_pos c18).trans ((if_neg c19).trans ((if_pos c20).trans rfl)))))))) dX6_parse_126
                · refine lv_aload_n hx hb dX6_parse_112 rfl (lv_at hl 0 rfl) ?_
                  refine lv_bipush (v := 59) hx hb dX6_parse_113 (by decide) ?_
                  refine c_i hw (run_V (As := [.int 59]) (rest := []) (np := 1) hf hw (k_X6_takes l E _  (59 : Int32)  (ch_X6_parsesNumber _ (ch_pM (ch_X6_parsedDigits _ (ch_pM (ch_pM hch (by decide)) (by decide))) (by decide)))) ⟨gl_V q956 q957 q958 q31 q959, by decide +kernel⟩ ⟨rfl, rfl, Nat.le_of_ble_eq_true rfl, Nat.le_of_ble_eq_true rfl⟩ (by decide) (c_Tx E _) rfl rfl hl.1 rfl (Nat.le_of_ble_eq_true rfl) dX6_parse_115 ⟨Nat.zero_le _, Nat.zero_le _⟩) (fun H locs hw => ?_)
                  refine lv_if_eq (tgt := 125) hx hb dX6_parse_118 (by decide) (fun c21 => ?_) (fun c21 => ?_)
                  · refine lv_iconst (v := 0) hx hb dX6_parse_125 (by decide) ?_
                    exact e_i hf hr hlocks hw rfl ((if_neg c1).trans ((if_neg c2).trans ((if_neg c7).trans ((if_neg c12).trans ((if_pos c17).trans ((if_pos c18).trans ((if_neg c19).trans ((if_neg c20).trans ((if_pos c21).trans rfl))))))))) dX6_parse_126
                  · refine lv_iconst (v := 1) hx hb dX6_parse_121 (by decide) ?_
                    refine lv_goto (tgt := 126) hx hb dX6_parse_122 (by decide) ?_
                    exact e_i hf hr hlocks hw rfl ((if_neg c1).trans ((if_neg c2).trans ((if_neg c7).trans ((if_neg c12).trans ((if_pos c17).trans ((if_pos c18).trans ((if_neg c19).trans ((if_neg c20).trans ((if_neg c21).trans rfl))))))))) dX6_parse_126
              · refine lv_aload_n hx hb dX6_parse_96 rfl (lv_at hl 0 rfl) ?_
                refine lv_bipush (v := 59) hx hb dX6_parse_97 (by decide) ?_
                refine c_i hw (run_V (As := [.int 59]) (rest := []) (np := 1) hf hw (k_X6_takes l E _  (59 : Int32)  (ch_pM (ch_X6_parsedDigits _ (ch_pM (ch_pM hch (by decide)) (by decide))) (by decide))) ⟨gl_V q956 q957 q958 q31 q959, by decide +kernel⟩ ⟨rfl, rfl, Nat.le_of_ble_eq_true rfl, Nat.le_of_ble_eq_true rfl⟩ (by decide) (c_Tx E _) rfl rfl hl.1 rfl (Nat.le_of_ble_eq_true rfl) dX6_parse_99 ⟨Nat.zero_le _, Nat.zero_le _⟩) (fun H locs hw => ?_)
                refine lv_goto (tgt := 126) hx hb dX6_parse_102 (by decide) ?_
                exact e_i hf hr hlocks hw (nb_takes _ _) ((if_neg c1).trans ((if_neg c2).trans ((if_neg c7).trans ((if_neg c12).trans ((if_pos c17).trans ((if_pos c18).trans ((if_pos c19).trans rfl))))))) dX6_parse_126
            · refine lv_iconst (v := 0) hx hb dX6_parse_85 (by decide) ?_
              exact e_i hf hr hlocks hw rfl ((if_neg c1).trans ((if_neg c2).trans ((if_neg c7).trans ((if_neg c12).trans ((if_pos c17).trans ((if_neg c18).trans rfl)))))) dX6_parse_86
          · refine lv_iconst (v := 0) hx hb dX6_parse_68 (by decide) ?_
            exact e_i hf hr hlocks hw rfl ((if_neg c1).trans ((if_neg c2).trans ((if_neg c7).trans ((if_neg c12).trans ((if_neg c17).trans rfl))))) dX6_parse_69
  · refine lv_aload_n hx hb dX6_parse_25 rfl (lv_at hl 0 rfl) ?_
    refine lv_bipush (v := 59) hx hb dX6_parse_26 (by decide) ?_
    refine c_i hw (run_V (As := [.int 59]) (rest := []) (np := 1) hf hw (k_X6_takes l E _  (59 : Int32)  (ch_pM (ch_pM hch (by decide)) (by decide))) ⟨gl_V q956 q957 q958 q31 q959, by decide +kernel⟩ ⟨rfl, rfl, Nat.le_of_ble_eq_true rfl, Nat.le_of_ble_eq_true rfl⟩ (by decide) (c_Tx E _) rfl rfl hl.1 rfl (Nat.le_of_ble_eq_true rfl) dX6_parse_28 ⟨Nat.zero_le _, Nat.zero_le _⟩) (fun H locs hw => ?_)
    exact e_i hf hr hlocks hw (nb_takes _ _) ((if_pos c1).trans rfl) dX6_parse_31
theorem ch_X6_parse (μ : Mu)  (w : Int32) (hch : ChOk (μ.1 6)) : ChOk ((sp_X6_parse μ w).2.1 6) := by
  unfold sp_X6_parse
  exact (ch_ite (ch_lf (ch_X6_takes _ _ (ch_pM (ch_pM hch (by decide)) (by decide)))) (ch_ite (ch_ite (ch_ite (ch_lf (ch_X6_takes _ _ (ch_pM (ch_X6_parsedDigits _ (ch_pM (ch_pM hch (by decide)) (by decide))) (by decide)))) (ch_ite (ch_lf (ch_X6_parsesNumber _ (ch_pM (ch_X6_parsedDigits _ (ch_pM (ch_pM hch (by decide)) (by decide))) (by decide)))) (ch_ite (ch_lf (ch_X6_takes _ _ (ch_X6_parsesNumber _ (ch_pM (ch_X6_parsedDigits _ (ch_pM (ch_pM hch (by decide)) (by decide))) (by decide))))) (ch_lf (ch_X6_takes _ _ (ch_X6_parsesNumber _ (ch_pM (ch_X6_parsedDigits _ (ch_pM (ch_pM hch (by decide)) (by decide))) (by decide)))))))) (ch_lf (ch_pM (ch_X6_parsedDigits _ (ch_pM (ch_pM hch (by decide)) (by decide))) (by decide)))) (ch_ite (ch_ite (ch_ite (ch_lf (ch_X6_takes _ _ (ch_pM (ch_X6_parsedDigits _ (ch_pM (ch_pM hch (by decide)) (by decide))) (by decide)))) (ch_ite (ch_lf (ch_X6_parsesNumber _ (ch_pM (ch_X6_parsedDigits _ (ch_pM (ch_pM hch (by decide)) (by decide))) (by decide)))) (ch_ite (ch_lf (ch_X6_takes _ _ (ch_X6_parsesNumber _ (ch_pM (ch_X6_parsedDigits _ (ch_pM (ch_pM hch (by decide)) (by decide))) (by decide))))) (ch_lf (ch_X6_takes _ _ (ch_X6_parsesNumber _ (ch_pM (ch_X6_parsedDigits _ (ch_pM (ch_pM hch (by decide)) (by decide))) (by decide)))))))) (ch_lf (ch_pM (ch_X6_parsedDigits _ (ch_pM (ch_pM hch (by decide)) (by decide))) (by decide)))) (ch_ite (ch_ite (ch_ite (ch_lf (ch_X6_takes _ _ (ch_pM (ch_X6_parsedDigits _ (ch_pM (ch_pM hch (by decide)) (by decide))) (by decide)))) (ch_ite (ch_lf (ch_X6_parsesNumber _ (ch_pM (ch_X6_parsedDigits _ (ch_pM (ch_pM hch (by decide)) (by decide))) (by decide)))) (ch_ite (ch_lf (ch_X6_takes _ _ (ch_X6_parsesNumber _ (ch_pM (ch_X6_parsedDigits _ (ch_pM (ch_pM hch (by decide)) (by decide))) (by decide))))) (ch_lf (ch_X6_takes _ _ (ch_X6_parsesNumber _ (ch_pM (ch_X6_parsedDigits _ (ch_pM (ch_pM hch (by decide)) (by decide))) (by decide)))))))) (ch_lf (ch_pM (ch_X6_parsedDigits _ (ch_pM (ch_pM hch (by decide)) (by decide))) (by decide)))) (ch_ite (ch_ite (ch_ite (ch_lf (ch_X6_takes _ _ (ch_pM (ch_X6_parsedDigits _ (ch_pM (ch_pM hch (by decide)) (by decide))) (by decide)))) (ch_ite (ch_lf (ch_X6_parsesNumber _ (ch_pM (ch_X6_parsedDigits _ (ch_pM (ch_pM hch (by decide)) (by decide))) (by decide)))) (ch_ite (ch_lf (ch_X6_takes _ _ (ch_X6_parsesNumber _ (ch_pM (ch_X6_parsedDigits _ (ch_pM (ch_pM hch (by decide)) (by decide))) (by decide))))) (ch_lf (ch_X6_takes _ _ (ch_X6_parsesNumber _ (ch_pM (ch_X6_parsedDigits _ (ch_pM (ch_pM hch (by decide)) (by decide))) (by decide)))))))) (ch_lf (ch_pM (ch_X6_parsedDigits _ (ch_pM (ch_pM hch (by decide)) (by decide))) (by decide)))) (ch_lf (ch_pM (ch_pM hch (by decide)) (by decide))))))))
def sp_X6_append (μ : Mu)  (a : Int32) : Mu :=
  if (μ.1 6 3 : Int32) < 0 then
    μ
  else
    if (60 : Int32) ≤ μ.1 6 3 then
      μ
    else
      pM (pM μ 6 (8 + ((μ.1 6 3).toNatClampNeg)) a) 6 3 (((pM μ 6 (8 + ((μ.1 6 3).toNatClampNeg)) a).1 6 3) + 1)
set_option maxHeartbeats 4000000 in
set_option maxRecDepth 100000 in
theorem k_X6_append (l : Launch) (E : En) (μ : Mu)  (a : Int32) (hc : 0 ≤ a.toInt ∧ a.toInt < 65536) : MtV l yX6_append cX6_append 2 ({ frames := 0, cells := 0, slots := 0, locals := 0 }) [.ref (E.1 (228)), .int (a)] E μ (sp_X6_append μ a) := by
  refine mt_of (by decide +kernel) (Nat.le_of_ble_eq_true rfl) ?_
  intro p e s m args below meth c ls hf hr hlocks hl hw
  have hx := hf.1
  have hb := hf.2.1
  have hl : lv_has ls 2 [(0, .ref (E.1 (228))), (1, .int (a))] := hl
  refine lv_aload_n hx hb dX6_append_0 rfl (lv_at hl 0 rfl) ?_
  refine g_f hw hf (by decide) (c_Tx E _) rfl inlX6 0 (by decide) rfl q919 rfl dX6_append_1 ?_
  refine lv_if_lt (tgt := 39) hx hb dX6_append_4 (by decide) (fun c1 => ?_) (fun c1 => ?_)
  · exact e_v hf hr hlocks hw ((if_pos c1).trans rfl) dX6_append_39
  · refine lv_aload_n hx hb dX6_append_7 rfl (lv_at hl 0 rfl) ?_
    refine g_f hw hf (by decide) (c_Tx E _) rfl inlX6 0 (by decide) rfl q919 rfl dX6_append_8 ?_
    refine lv_aload_n hx hb dX6_append_11 rfl (lv_at hl 0 rfl) ?_
    refine g_f hw hf (by decide) (c_Tx E _) rfl inlX6 5 (by decide) rfl q85 rfl dX6_append_12 ?_
    refine g_n hw hf (by decide) (c_Tc E _) (t0 := 1) (v := 60) rfl rfl dX6_append_15 ?_
    refine lv_icmp_ge (tgt := 39) hx hb dX6_append_16 (by decide) (fun c2 => ?_) (fun c2 => ?_)
    · exact e_v hf hr hlocks hw ((if_neg c1).trans ((if_pos c2).trans rfl)) dX6_append_39
    · refine lv_aload_n hx hb dX6_append_19 rfl (lv_at hl 0 rfl) ?_
      refine g_f hw hf (by decide) (c_Tx E _) rfl inlX6 5 (by decide) rfl q85 rfl dX6_append_20 ?_
      refine lv_aload_n hx hb dX6_append_23 rfl (lv_at hl 0 rfl) ?_
      refine g_f hw hf (by decide) (c_Tx E _) rfl inlX6 0 (by decide) rfl q919 rfl dX6_append_24 ?_
      refine lv_iload_n hx hb dX6_append_27 rfl (lv_at hl 1 rfl) ?_
      refine p_c hw hf (by decide) (c_Tc E _) (ch_vp hc) (vin 60 60 (by decide) (by decide) rfl c1 c2) (s_Tc E _ (vin_lt (vin 60 60 (by decide) (by decide) rfl c1 c2)) _) dX6_append_28 (fun H locs hw => ?_)
      refine lv_aload_n hx hb dX6_append_29 rfl (lv_at hl 0 rfl) ?_
      refine lv_dup hx hb dX6_append_30 rfl ?_
      refine g_f hw hf (by decide) (c_Tx E _) rfl inlX6 0 (by decide) rfl q919 rfl dX6_append_31 ?_
      refine lv_iconst (v := 1) hx hb dX6_append_34 (by decide) ?_
      refine lv_iadd hx hb dX6_append_35 ?_
      refine p_f hw hf (by decide) (c_Tx E _) rfl inlX6 tyX6_ok nmX6 0 (by decide) rfl q919 rfl rfl rfl (Nat.le_of_ble_eq_true rfl) (s_Tx_0 E _ _) dX6_append_36 (fun H locs hw => ?_)
      exact e_v hf hr hlocks hw ((if_neg c1).trans ((if_neg c2).trans rfl)) dX6_append_39
theorem ch_X6_append (μ : Mu) (a : Int32) (hc : 0 ≤ a.toInt ∧ a.toInt < 65536) (hch : ChOk (μ.1 6)) : ChOk ((sp_X6_append μ a).1 6) := by
  unfold sp_X6_append
  refine ch_iteM hch (ch_iteM hch (ch_pM ?_ (by decide)))
  intro y hy
  show 0 ≤ (upM μ.1 6 (8 + (μ.1 6 3).toNatClampNeg) a 6 (8 + y)).toInt ∧ (upM μ.1 6 (8 + (μ.1 6 3).toNatClampNeg) a 6 (8 + y)).toInt < 65536
  unfold upM
  by_cases h : (6 : Nat) = 6 ∧ 8 + y = 8 + (μ.1 6 3).toNatClampNeg
  · rw [if_pos h]; exact hc
  · rw [if_neg h]; exact hch y hy
