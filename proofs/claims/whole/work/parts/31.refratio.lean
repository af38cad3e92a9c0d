/-- a table's temperatures rise, and keep to their range -/
def RT (g : Nat → Int32) (t : Nat) : Prop := (∀ k, k + 1 < rN g t → g (11 + 25 * t + k) < g (11 + 25 * t + (k + 1))) ∧ ∀ k, k < rN g t → -200000 ≤ (g (11 + 25 * t + k)).toInt ∧ (g (11 + 25 * t + k)).toInt ≤ 850000
theorem rt_adv {g : Nat → Int32} {t k : Nat} {w : Int32} (hle : w ≤ rL g t) (c : ¬ w ≤ g (11 + 25 * t + (k + 1))) (h2 : k + 1 < rN g t) : k + 1 + 1 < rN g t := by
  rcases Nat.lt_or_ge (k + 1 + 1) (rN g t) with q | q
  · exact q
  · have e : rN g t - 1 = k + 1 := by omega
    unfold rL at hle
    rw [e] at hle
    exact absurd hle c
theorem nz_diff {a b : Int32} (ha : -200000 ≤ a.toInt ∧ a.toInt ≤ 850000) (hb : -200000 ≤ b.toInt ∧ b.toInt ≤ 850000) (h : a < b) : ¬ (b - a).toInt64 = 0 := by
  intro q
  have e := congrArg Int64.toInt q
  rw [Int32.toInt_toInt64, Int32.toInt_sub] at e
  rw [Int32.lt_iff_toInt_lt] at h
  have z : (0 : Int64).toInt = 0 := by decide
  rw [z, Int.bmod_def] at e
  omega
def lp_X8_ratioAt_2 (g : Nat → Int32)  (t : Nat) (w : Int32) : Nat → Nat → Int32
  | 0, _ => 0
  | f + 1, k =>
    if (w : Int32) ≤ (g (11 + 25 * t + (k + 1))) then
      if ((g (11 + 25 * t + (k + 1))) : Int32) = w then
        (g (23 + 25 * t + (k + 1)))
      else
        (g (23 + 25 * t + k)) + ((((((g (23 + 25 * t + (k + 1))) - (g (23 + 25 * t + k))).toInt64) * ((w - (g (11 + 25 * t + k))).toInt64)) / (((g (11 + 25 * t + (k + 1))) - (g (11 + 25 * t + k))).toInt64)).toInt32)
    else
      lp_X8_ratioAt_2 g t w f (k + 1)
def sp_X8_ratioAt (g : Nat → Int32)  (t : Nat) (w : Int32) : Int32 :=
  lp_X8_ratioAt_2 g t w (rN g t) 0
set_option maxHeartbeats 4000000 in
set_option maxRecDepth 100000 in
theorem k_X8_ratioAt (l : Launch) (E : En) (μ : Mu)  (t : Nat) (w : Int32) (ht : t < 3) (hI : RI (μ.1 8)) (hT : RT (μ.1 8) t) (hn2 : 2 ≤ rN (μ.1 8) t) (hle : w ≤ rL (μ.1 8) t) : MtI l yX8_ratioAt cX8_ratioAt 6 .int ({ frames := 1, cells := 0, slots := 0, locals := 22 }) [.ref (E.1 (232)), .int (nI t), .int (w)] E μ ((sp_X8_ratioAt (μ.1 8) t w), μ) := by
  refine mt_of (by decide +kernel) (Nat.le_of_ble_eq_true rfl) ?_
  intro p e s m args below meth c ls hf hr hlocks hl hw
  have hx := hf.1
  have hb := hf.2.1
  have hl : lv_has ls 6 [(0, .ref (E.1 (232))), (1, .int (nI t)), (2, .int (w))] := hl
  have hN13 : rN (μ.1 8) t < 13 := (hI.2.2.1 t ht).2
  refine lv_iconst (v := 0) hx hb dX8_ratioAt_0 (by decide) ?_
  refine lv_istore_n (lv' := [(3, .int 0), (0, .ref (E.1 (232))), (1, .int (nI t)), (2, .int (w))]) hx hb dX8_ratioAt_1 rfl hl (by decide) rfl (fun ls hl => ?_)
  have key_2 : ∀ (f : Nat) (k : Nat), k + f = rN (μ.1 8) t → k + 1 < rN (μ.1 8) t → sp_X8_ratioAt (μ.1 8) t w = lp_X8_ratioAt_2 (μ.1 8) t w f k → ∀ (ls : Array Slot) (H : Heap) (locs : List Loc), lv_has ls 6 [(0, .ref (E.1 (232))), (1, .int (nI t)), (2, .int (w)), (3, .int (nI k))] → Wk E μ s H locs → W p l e ({ frames := 1, cells := 0, slots := 0, locals := 22 }) s m args below meth c H locs 0 0 (MQ below (va_Qi (fun r u => r = ((sp_X8_ratioAt (μ.1 8) t w, μ)).1 ∧ u = ((sp_X8_ratioAt (μ.1 8) t w, μ)).2) (fun u t => WdU E u t) (inE E)) args s 0 0 (inE E)) (F0 m 2 ls []) := by
    intro f
    induction f with
    | zero => intro k h1 h2 hq ls H locs hl hw; exfalso; omega
    | succ f ih =>
      intro k h1 h2 hq ls H locs hl hw
      refine lv_aload_n hx hb dX8_ratioAt_2 rfl (lv_at hl 0 rfl) ?_
      refine lv_iload_n hx hb dX8_ratioAt_3 rfl (lv_at hl 1 rfl) ?_
      refine lv_iload_n hx hb dX8_ratioAt_4 rfl (lv_at hl 3 rfl) ?_
      refine lv_iconst (v := 1) hx hb dX8_ratioAt_5 (by decide) ?_
      refine lv_iadd hx hb dX8_ratioAt_6 ?_
      refine fold_i (show nI k + (1 : Int32) = nI (k + 1) from nI_add (k) (1)) ?_
      refine c_iR hw (run_V (As := [.int (nI t), .int (nI (k + 1))]) (rest := []) (np := 2) hf hw (kn_X8_degree l E _  t (k + 1)  (show t < 3 from ht) (show k + 1 < 12 from (by omega))) ⟨gl_V q219 q220 q221 q5 q222, by decide +kernel⟩ ⟨rfl, rfl, Nat.le_of_ble_eq_true rfl, Nat.le_of_ble_eq_true rfl⟩ (by decide) (c_R E _) rfl rfl hl.1 rfl (Nat.le_of_ble_eq_true rfl) dX8_ratioAt_7 ⟨Nat.zero_le _, Nat.zero_le _⟩) (fun H locs hw => ?_)
      refine lv_iload_n hx hb dX8_ratioAt_10 rfl (lv_at hl 2 rfl) ?_
      refine lv_icmp_ge (tgt := 20) hx hb dX8_ratioAt_11 (by decide) (fun c1 => ?_) (fun c1 => ?_)
      · refine lv_aload_n hx hb dX8_ratioAt_20 rfl (lv_at hl 0 rfl) ?_
        refine lv_iload_n hx hb dX8_ratioAt_21 rfl (lv_at hl 1 rfl) ?_
        refine lv_iload_n hx hb dX8_ratioAt_22 rfl (lv_at hl 3 rfl) ?_
        refine lv_iconst (v := 1) hx hb dX8_ratioAt_23 (by decide) ?_
        refine lv_iadd hx hb dX8_ratioAt_24 ?_
        refine fold_i (show nI k + (1 : Int32) = nI (k + 1) from nI_add (k) (1)) ?_
        refine c_iR hw (run_V (As := [.int (nI t), .int (nI (k + 1))]) (rest := []) (np := 2) hf hw (kn_X8_degree l E _  t (k + 1)  (show t < 3 from ht) (show k + 1 < 12 from (by omega))) ⟨gl_V q219 q220 q221 q5 q222, by decide +kernel⟩ ⟨rfl, rfl, Nat.le_of_ble_eq_true rfl, Nat.le_of_ble_eq_true rfl⟩ (by decide) (c_R E _) rfl rfl hl.1 rfl (Nat.le_of_ble_eq_true rfl) dX8_ratioAt_25 ⟨Nat.zero_le _, Nat.zero_le _⟩) (fun H locs hw => ?_)
        refine lv_iload_n hx hb dX8_ratioAt_28 rfl (lv_at hl 2 rfl) ?_
        refine lv_icmp_ne (tgt := 41) hx hb dX8_ratioAt_29 (by decide) (fun c2 => ?_) (fun c2 => ?_)
        · refine lv_aload_n hx hb dX8_ratioAt_41 rfl (lv_at hl 0 rfl) ?_
          refine lv_iload_n hx hb dX8_ratioAt_42 rfl (lv_at hl 1 rfl) ?_
          refine lv_iload_n hx hb dX8_ratioAt_43 rfl (lv_at hl 3 rfl) ?_
          refine lv_iconst (v := 1) hx hb dX8_ratioAt_44 (by decide) ?_
          refine lv_iadd hx hb dX8_ratioAt_45 ?_
          refine fold_i (show nI k + (1 : Int32) = nI (k + 1) from nI_add (k) (1)) ?_
          refine c_iR hw (run_V (As := [.int (nI t), .int (nI (k + 1))]) (rest := []) (np := 2) hf hw (kn_X8_ratioOf l E _  t (k + 1)  (show t < 3 from ht) (show k + 1 < 12 from (by omega))) ⟨gl_V q223 q224 q225 q5 q226, by decide +kernel⟩ ⟨rfl, rfl, Nat.le_of_ble_eq_true rfl, Nat.le_of_ble_eq_true rfl⟩ (by decide) (c_R E _) rfl rfl hl.1 rfl (Nat.le_of_ble_eq_true rfl) dX8_ratioAt_46 ⟨Nat.zero_le _, Nat.zero_le _⟩) (fun H locs hw => ?_)
          refine lv_aload_n hx hb dX8_ratioAt_49 rfl (lv_at hl 0 rfl) ?_
          refine lv_iload_n hx hb dX8_ratioAt_50 rfl (lv_at hl 1 rfl) ?_
          refine lv_iload_n hx hb dX8_ratioAt_51 rfl (lv_at hl 3 rfl) ?_
          refine c_iR hw (run_V (As := [.int (nI t), .int (nI k)]) (rest := [.int ((μ.1 8 (23 + 25 * t + (k + 1))))]) (np := 2) hf hw (kn_X8_ratioOf l E _  t k  (show t < 3 from ht) (show k < 12 from (by omega))) ⟨gl_V q223 q224 q225 q5 q226, by decide +kernel⟩ ⟨rfl, rfl, Nat.le_of_ble_eq_true rfl, Nat.le_of_ble_eq_true rfl⟩ (by decide) (c_R E _) rfl rfl hl.1 rfl (Nat.le_of_ble_eq_true rfl) dX8_ratioAt_52 ⟨Nat.zero_le _, Nat.zero_le _⟩) (fun H locs hw => ?_)
          refine lv_isub hx hb dX8_ratioAt_55 ?_
          refine lv_i2l hx hb dX8_ratioAt_56 rfl ?_
          refine lv_iload_n hx hb dX8_ratioAt_57 rfl (lv_at hl 2 rfl) ?_
          refine lv_aload_n hx hb dX8_ratioAt_58 rfl (lv_at hl 0 rfl) ?_
          refine lv_iload_n hx hb dX8_ratioAt_59 rfl (lv_at hl 1 rfl) ?_
          refine lv_iload_n hx hb dX8_ratioAt_60 rfl (lv_at hl 3 rfl) ?_
          refine c_iR hw (run_V (As := [.int (nI t), .int (nI k)]) (rest := [.int (w), .long (((μ.1 8 (23 + 25 * t + (k + 1))) - (μ.1 8 (23 + 25 * t + k))).toInt64)]) (np := 2) hf hw (kn_X8_degree l E _  t k  (show t < 3 from ht) (show k < 12 from (by omega))) ⟨gl_V q219 q220 q221 q5 q222, by decide +kernel⟩ ⟨rfl, rfl, Nat.le_of_ble_eq_true rfl, Nat.le_of_ble_eq_true rfl⟩ (by decide) (c_R E _) rfl rfl hl.1 rfl (Nat.le_of_ble_eq_true rfl) dX8_ratioAt_61 ⟨Nat.zero_le _, Nat.zero_le _⟩) (fun H locs hw => ?_)
          refine lv_isub hx hb dX8_ratioAt_64 ?_
          refine lv_i2l hx hb dX8_ratioAt_65 rfl ?_
          refine lv_lmul hx hb dX8_ratioAt_66 ?_
          refine lv_aload_n hx hb dX8_ratioAt_67 rfl (lv_at hl 0 rfl) ?_
          refine lv_iload_n hx hb dX8_ratioAt_68 rfl (lv_at hl 1 rfl) ?_
          refine lv_iload_n hx hb dX8_ratioAt_69 rfl (lv_at hl 3 rfl) ?_
          refine lv_iconst (v := 1) hx hb dX8_ratioAt_70 (by decide) ?_
          refine lv_iadd hx hb dX8_ratioAt_71 ?_
          refine fold_i (show nI k + (1 : Int32) = nI (k + 1) from nI_add (k) (1)) ?_
          refine c_iR hw (run_V (As := [.int (nI t), .int (nI (k + 1))]) (rest := [.long ((((μ.1 8 (23 + 25 * t + (k + 1))) - (μ.1 8 (23 + 25 * t + k))).toInt64) * ((w - (μ.1 8 (11 + 25 * t + k))).toInt64))]) (np := 2) hf hw (kn_X8_degree l E _  t (k + 1)  (show t < 3 from ht) (show k + 1 < 12 from (by omega))) ⟨gl_V q219 q220 q221 q5 q222, by decide +kernel⟩ ⟨rfl, rfl, Nat.le_of_ble_eq_true rfl, Nat.le_of_ble_eq_true rfl⟩ (by decide) (c_R E _) rfl rfl hl.1 rfl (Nat.le_of_ble_eq_true rfl) dX8_ratioAt_72 ⟨Nat.zero_le _, Nat.zero_le _⟩) (fun H locs hw => ?_)
          refine lv_aload_n hx hb dX8_ratioAt_75 rfl (lv_at hl 0 rfl) ?_
          refine lv_iload_n hx hb dX8_ratioAt_76 rfl (lv_at hl 1 rfl) ?_
          refine lv_iload_n hx hb dX8_ratioAt_77 rfl (lv_at hl 3 rfl) ?_
          refine c_iR hw (run_V (As := [.int (nI t), .int (nI k)]) (rest := [.int ((μ.1 8 (11 + 25 * t + (k + 1)))), .long ((((μ.1 8 (23 + 25 * t + (k + 1))) - (μ.1 8 (23 + 25 * t + k))).toInt64) * ((w - (μ.1 8 (11 + 25 * t + k))).toInt64))]) (np := 2) hf hw (kn_X8_degree l E _  t k  (show t < 3 from ht) (show k < 12 from (by omega))) ⟨gl_V q219 q220 q221 q5 q222, by decide +kernel⟩ ⟨rfl, rfl, Nat.le_of_ble_eq_true rfl, Nat.le_of_ble_eq_true rfl⟩ (by decide) (c_R E _) rfl rfl hl.1 rfl (Nat.le_of_ble_eq_true rfl) dX8_ratioAt_78 ⟨Nat.zero_le _, Nat.zero_le _⟩) (fun H locs hw => ?_)
          refine lv_isub hx hb dX8_ratioAt_81 ?_
          refine lv_i2l hx hb dX8_ratioAt_82 rfl ?_
          refine lv_ldiv hx hb dX8_ratioAt_83 (nz_diff (hT.2 _ (by omega)) (hT.2 _ (by omega)) (hT.1 k (by omega))) ?_
          refine lv_lstore (lv' := [(4, .long (((((μ.1 8 (23 + 25 * t + (k + 1))) - (μ.1 8 (23 + 25 * t + k))).toInt64) * ((w - (μ.1 8 (11 + 25 * t + k))).toInt64)) / (((μ.1 8 (11 + 25 * t + (k + 1))) - (μ.1 8 (11 + 25 * t + k))).toInt64))), (0, .ref (E.1 (232))), (1, .int (nI t)), (2, .int (w)), (3, .int (nI k))]) hx hb dX8_ratioAt_84 hl (by decide) rfl (fun ls hl => ?_)
          refine lv_aload_n hx hb dX8_ratioAt_86 rfl (lv_at hl 1 rfl) ?_
          refine lv_iload_n hx hb dX8_ratioAt_87 rfl (lv_at hl 2 rfl) ?_
          refine lv_iload_n hx hb dX8_ratioAt_88 rfl (lv_at hl 4 rfl) ?_
          refine c_iR hw (run_V (As := [.int (nI t), .int (nI k)]) (rest := []) (np := 2) hf hw (kn_X8_ratioOf l E _  t k  (show t < 3 from ht) (show k < 12 from (by omega))) ⟨gl_V q223 q224 q225 q5 q226, by decide +kernel⟩ ⟨rfl, rfl, Nat.le_of_ble_eq_true rfl, Nat.le_of_ble_eq_true rfl⟩ (by decide) (c_R E _) rfl rfl hl.1 rfl (Nat.le_of_ble_eq_true rfl) dX8_ratioAt_89 ⟨Nat.zero_le _, Nat.zero_le _⟩) (fun H locs hw => ?_)
          refine lv_lload hx hb dX8_ratioAt_92 (lv_at hl 0 rfl) ?_
          refine lv_l2i hx hb dX8_ratioAt_94 rfl ?_
          refine lv_iadd hx hb dX8_ratioAt_95 ?_
          exact e_i hf hr hlocks hw rfl (congrArg (fun z => (z, μ)) ((hq).trans ((if_pos c1).trans ((if_neg c2).trans rfl)))) dX8_ratioAt_96
        · refine lv_aload_n hx hb dX8_ratioAt_32 rfl (lv_at hl 0 rfl) ?_
          refine lv_iload_n hx hb dX8_ratioAt_33 rfl (lv_at hl 1 rfl) ?_
          refine lv_iload_n hx hb dX8_ratioAt_34 rfl (lv_at hl 3 rfl) ?_
          refine lv_iconst (v := 1) hx hb dX8_ratioAt_35 (by decide) ?_
          refine lv_iadd hx hb dX8_ratioAt_36 ?_
          refine fold_i (show nI k + (1 : Int32) = nI (k + 1) from nI_add (k) (1)) ?_
          refine c_iR hw (run_V (As := [.int (nI t), .int (nI (k + 1))]) (rest := []) (np := 2) hf hw (kn_X8_ratioOf l E _  t (k + 1)  (show t < 3 from ht) (show k + 1 < 12 from (by omega))) ⟨gl_V q223 q224 q225 q5 q226, by decide +kernel⟩ ⟨rfl, rfl, Nat.le_of_ble_eq_true rfl, Nat.le_of_ble_eq_true rfl⟩ (by decide) (c_R E _) rfl rfl hl.1 rfl (Nat.le_of_ble_eq_true rfl) dX8_ratioAt_37 ⟨Nat.zero_le _, Nat.zero_le _⟩) (fun H locs hw => ?_)
          exact e_i hf hr hlocks hw rfl (congrArg (fun z => (z, μ)) ((hq).trans ((if_pos c1).trans ((if_pos c2).trans rfl)))) dX8_ratioAt_40
      · refine lv_iinc (v := nI (k + 1)) (lv' := [(3, .int (nI (k + 1))), (0, .ref (E.1 (232))), (1, .int (nI t)), (2, .int (w))]) hx hb dX8_ratioAt_14 hl (k := 3) rfl (nI_1 _) (by decide) rfl (fun ls hl => ?_)
        refine lv_goto (tgt := 2) hx hb dX8_ratioAt_17 (by decide) ?_
        exact ih (k + 1) (by omega) (rt_adv hle c1 h2) (((hq).trans ((if_neg c1).trans rfl))) _ _ _ (lv_sub hl [1, 2, 3, 0] rfl) hw
  exact key_2 (rN (μ.1 8) t) 0 (by omega) (by omega) (rfl) _ _ _ (lv_sub hl [1, 2, 3, 0] rfl) hw
theorem rt_up {g : Nat → Int32} {t : Nat} (hT : RT g t) : ∀ (d k : Nat), k + d < rN g t → (g (11 + 25 * t + k)).toInt ≤ (g (11 + 25 * t + (k + d))).toInt := by
  intro d
  induction d with
  | zero => intro k _; exact Int.le_refl _
  | succ d ih =>
    intro k h
    have h1 := ih k (by omega)
    have h2 := hT.1 (k + d) (by omega)
    rw [Int32.lt_iff_toInt_lt] at h2
    rw [show k + (d + 1) = k + d + 1 by omega]
    omega
theorem rt_fl {g : Nat → Int32} {t : Nat} (hT : RT g t) (hn : 2 ≤ rN g t) : (g (11 + 25 * t + 0)).toInt ≤ (rL g t).toInt ∧ -200000 ≤ (g (11 + 25 * t + 0)).toInt ∧ (rL g t).toInt ≤ 850000 := by
  have h1 := rt_up hT (rN g t - 1) 0 (by omega)
  rw [Nat.zero_add] at h1
  exact ⟨h1, (hT.2 0 (by omega)).1, (hT.2 (rN g t - 1) (by omega)).2⟩
theorem bs_mid {x y : Int32} (h2 : x.toInt ≤ y.toInt) (h3 : -200000 ≤ x.toInt) (h4 : y.toInt ≤ 850000) : (x + (y - x) / 2).toInt = x.toInt + (y.toInt - x.toInt) / 2 := by
  have e1 : (y - x).toInt = y.toInt - x.toInt := by
    rw [Int32.toInt_sub, Int.bmod_eq_of_le] <;> omega
  have e2 : ((y - x) / 2).toInt = (y.toInt - x.toInt) / 2 := by
    rw [Int32.toInt_div, e1, show (2 : Int32).toInt = 2 by decide, Int.tdiv_eq_ediv_of_nonneg (by omega), Int.bmod_eq_of_le] <;> omega
  rw [Int32.toInt_add, e2, Int.bmod_eq_of_le] <;> omega
theorem bs_mid1 {x y : Int32} (h2 : x.toInt ≤ y.toInt) (h3 : -200000 ≤ x.toInt) (h4 : y.toInt ≤ 850000) : ((x + (y - x) / 2) + 1).toInt = x.toInt + (y.toInt - x.toInt) / 2 + 1 := by
  have e := bs_mid h2 h3 h4
  rw [Int32.toInt_add, e, show (1 : Int32).toInt = 1 by decide, Int.bmod_eq_of_le] <;> omega
def lp_X8_inverseOf_56 (g : Nat → Int32)  (t : Nat) (w : Int64) : Nat → Int32 → Int32 → Int32
  | 0, _, _ => 0
  | f + 1, x, y =>
    if (y : Int32) ≤ x then
      x
    else
      if ((sp_X8_ratioAt g  t (x + ((y - x) / 2))).toInt64 : Int64) < w then
        lp_X8_inverseOf_56 g t w f ((x + ((y - x) / 2)) + 1) y
      else
        lp_X8_inverseOf_56 g t w f x (x + ((y - x) / 2))
def sp_X8_inverseOf (g : Nat → Int32)  (t : Nat) (w : Int64) : Int32 :=
  if (nI ((g (10 + 25 * t)).toNatClampNeg) : Int32) < 2 then
    (-2000000004)
  else
    if (w : Int64) < (g (23 + 25 * t + 0)).toInt64 then
      (-2000000004)
    else
      if (w : Int64) ≤ (g (23 + 25 * t + ((g (10 + 25 * t)).toNatClampNeg - 1))).toInt64 then
        lp_X8_inverseOf_56 g t w (((rL g t).toInt - (g (11 + 25 * t + 0)).toInt).toNat + 1) (g (11 + 25 * t + 0)) (rL g t)
      else
        (-2000000004)
set_option maxHeartbeats 4000000 in
set_option maxRecDepth 100000 in
theorem k_X8_inverseOf (l : Launch) (E : En) (μ : Mu)  (t : Nat) (w : Int64) (ht : t < 3) (hI : RI (μ.1 8)) (hT : RT (μ.1 8) t) : MtI l yX8_inverseOf cX8_inverseOf 7 .int ({ frames := 2, cells := 0, slots := 0, locals := 47 }) [.ref (E.1 (232)), .int (nI t), .long (w)] E μ ((sp_X8_inverseOf (μ.1 8) t w), μ) := by
  refine mt_of (by decide +kernel) (Nat.le_of_ble_eq_true rfl) ?_
  intro p e s m args below meth c ls hf hr hlocks hl hw
  have hx := hf.1
  have hb := hf.2.1
  have hl : lv_has ls 7 [(0, .ref (E.1 (232))), (1, .int (nI t)), (2, .long (w))] := hl
  have hN13 : (μ.1 8 (10 + 25 * t)).toNatClampNeg < 13 := (hI.2.2.1 t ht).2
  refine lv_aload_n hx hb dX8_inverseOf_0 rfl (lv_at hl 0 rfl) ?_
  refine lv_iload_n hx hb dX8_inverseOf_1 rfl (lv_at hl 1 rfl) ?_
  refine c_iR hw (run_V (As := [.int (nI t)]) (rest := []) (np := 1) hf hw (kn_X8_nodes l E _  t  (show t < 3 from ht)) ⟨gl_V q215 q216 q217 q5 q218, by decide +kernel⟩ ⟨rfl, rfl, Nat.le_of_ble_eq_true rfl, Nat.le_of_ble_eq_true rfl⟩ (by decide) (c_R E _) rfl rfl hl.1 rfl (Nat.le_of_ble_eq_true rfl) dX8_inverseOf_2 ⟨Nat.zero_le _, Nat.zero_le _⟩) (fun H locs hw => ?_)
  have hb1 := ((hI).2.2.1 _ ht).2
  refine fold_i (show μ.1 8 (10 + 25 * t) = nI ((μ.1 8 (10 + 25 * t)).toNatClampNeg) from ((hI).2.2.1 _ ht).1) ?_
  refine lv_iconst (v := 2) hx hb dX8_inverseOf_5 (by decide) ?_
  refine lv_icmp_lt (tgt := 39) hx hb dX8_inverseOf_6 (by decide) (fun c2 => ?_) (fun c2 => ?_)
  · have c2n : ((μ.1 8 (10 + 25 * t)).toNatClampNeg) < 2 := by have q := (nI_ltI (a := ((μ.1 8 (10 + 25 * t)).toNatClampNeg)) (b := 2) (by omega) (by omega)); first | exact q.mp c2 | exact fun z => c2 (q.mpr z)
    refine lv_ldc hx hb hf.2.2.2.1 (hf.2.2.2.2 _ q242) dX8_inverseOf_39 ?_
    exact e_i hf hr hlocks hw rfl (congrArg (fun z => (z, μ)) ((if_pos c2).trans rfl)) dX8_inverseOf_41
  · have c2n : ¬ ((μ.1 8 (10 + 25 * t)).toNatClampNeg) < 2 := by have q := (nI_ltI (a := ((μ.1 8 (10 + 25 * t)).toNatClampNeg)) (b := 2) (by omega) (by omega)); first | exact q.mp c2 | exact fun z => c2 (q.mpr z)
    refine lv_lload_n hx hb dX8_inverseOf_9 rfl (lv_at hl 2 rfl) ?_
    refine lv_aload_n hx hb dX8_inverseOf_10 rfl (lv_at hl 0 rfl) ?_
    refine lv_iload_n hx hb dX8_inverseOf_11 rfl (lv_at hl 1 rfl) ?_
    refine lv_iconst (v := 0) hx hb dX8_inverseOf_12 (by decide) ?_
    refine c_iR hw (run_V (As := [.int (nI t), .int 0]) (rest := [.long (w)]) (np := 2) hf hw (kn_X8_ratioOf l E _  t 0  (show t < 3 from ht) (show 0 < 12 from (by decide))) ⟨gl_V q223 q224 q225 q5 q226, by decide +kernel⟩ ⟨rfl, rfl, Nat.le_of_ble_eq_true rfl, Nat.le_of_ble_eq_true rfl⟩ (by decide) (c_R E _) rfl rfl hl.1 rfl (Nat.le_of_ble_eq_true rfl) dX8_inverseOf_13 ⟨Nat.zero_le _, Nat.zero_le _⟩) (fun H locs hw => ?_)
    refine lv_i2l hx hb dX8_inverseOf_16 rfl ?_
    refine W.lcmp hx hb dX8_inverseOf_17 ?_
    refine lv_if_lt (tgt := 39) hx hb dX8_inverseOf_18 (by decide) (fun c3 => ?_) (fun c3 => ?_)
    · replace c3 := (lg_cmp_lt _ _).mp c3
      refine lv_ldc hx hb hf.2.2.2.1 (hf.2.2.2.2 _ q242) dX8_inverseOf_39 ?_
      exact e_i hf hr hlocks hw rfl (congrArg (fun z => (z, μ)) ((if_neg c2).trans ((if_pos c3).trans rfl))) dX8_inverseOf_41
    · replace c3 := mt (lg_cmp_lt _ _).mpr c3
      refine lv_lload_n hx hb dX8_inverseOf_21 rfl (lv_at hl 2 rfl) ?_
      refine lv_aload_n hx hb dX8_inverseOf_22 rfl (lv_at hl 0 rfl) ?_
      refine lv_iload_n hx hb dX8_inverseOf_23 rfl (lv_at hl 1 rfl) ?_
      refine lv_aload_n hx hb dX8_inverseOf_24 rfl (lv_at hl 0 rfl) ?_
      refine lv_iload_n hx hb dX8_inverseOf_25 rfl (lv_at hl 1 rfl) ?_
      refine c_iR hw (run_V (As := [.int (nI t)]) (rest := [.int (nI t), .ref (E.1 (232)), .long (w)]) (np := 1) hf hw (kn_X8_nodes l E _  t  (show t < 3 from ht)) ⟨gl_V q215 q216 q217 q5 q218, by decide +kernel⟩ ⟨rfl, rfl, Nat.le_of_ble_eq_true rfl, Nat.le_of_ble_eq_true rfl⟩ (by decide) (c_R E _) rfl rfl hl.1 rfl (Nat.le_of_ble_eq_true rfl) dX8_inverseOf_26 ⟨Nat.zero_le _, Nat.zero_le _⟩) (fun H locs hw => ?_)
      refine fold_i (show μ.1 8 (10 + 25 * t) = nI ((μ.1 8 (10 + 25 * t)).toNatClampNeg) from ((hI).2.2.1 _ ht).1) ?_
      refine lv_iconst (v := 1) hx hb dX8_inverseOf_29 (by decide) ?_
      refine lv_isub hx hb dX8_inverseOf_30 ?_
      refine fold_i (show nI ((μ.1 8 (10 + 25 * t)).toNatClampNeg) - 1 = nI ((μ.1 8 (10 + 25 * t)).toNatClampNeg - 1) from pk_sub (a := (μ.1 8 (10 + 25 * t)).toNatClampNeg) (b := 1) (by omega)) ?_
      refine c_iR hw (run_V (As := [.int (nI t), .int (nI ((μ.1 8 (10 + 25 * t)).toNatClampNeg - 1))]) (rest := [.long (w)]) (np := 2) hf hw (kn_X8_ratioOf l E _  t ((μ.1 8 (10 + 25 * t)).toNatClampNeg - 1)  (show t < 3 from ht) (show (μ.1 8 (10 + 25 * t)).toNatClampNeg - 1 < 12 from (by omega))) ⟨gl_V q223 q224 q225 q5 q226, by decide +kernel⟩ ⟨rfl, rfl, Nat.le_of_ble_eq_true rfl, Nat.le_of_ble_eq_true rfl⟩ (by decide) (c_R E _) rfl rfl hl.1 rfl (Nat.le_of_ble_eq_true rfl) dX8_inverseOf_31 ⟨Nat.zero_le _, Nat.zero_le _⟩) (fun H locs hw => ?_)
      refine lv_i2l hx hb dX8_inverseOf_34 rfl ?_
      refine W.lcmp hx hb dX8_inverseOf_35 ?_
      refine lv_if_le (tgt := 42) hx hb dX8_inverseOf_36 (by decide) (fun c4 => ?_) (fun c4 => ?_)
      · replace c4 := (lg_cmp_le _ _).mp c4
        refine lv_aload_n hx hb dX8_inverseOf_42 rfl (lv_at hl 0 rfl) ?_
        refine lv_iload_n hx hb dX8_inverseOf_43 rfl (lv_at hl 1 rfl) ?_
        refine c_iR hw (run_V (As := [.int (nI t)]) (rest := []) (np := 1) hf hw (kn_X8_first l E _  t  (show t < 3 from ht)) ⟨gl_V q263 q264 q265 q5 q266, by decide +kernel⟩ ⟨rfl, rfl, Nat.le_of_ble_eq_true rfl, Nat.le_of_ble_eq_true rfl⟩ (by decide) (c_R E _) rfl rfl hl.1 rfl (Nat.le_of_ble_eq_true rfl) dX8_inverseOf_44 ⟨Nat.zero_le _, Nat.zero_le _⟩) (fun H locs hw => ?_)
        refine lv_istore (lv' := [(4, .int ((μ.1 8 (11 + 25 * t + 0)))), (0, .ref (E.1 (232))), (1, .int (nI t)), (2, .long (w))]) hx hb dX8_inverseOf_47 hl (by decide) rfl (fun ls hl => ?_)
        refine lv_aload_n hx hb dX8_inverseOf_49 rfl (lv_at hl 1 rfl) ?_
        refine lv_iload_n hx hb dX8_inverseOf_50 rfl (lv_at hl 2 rfl) ?_
        refine c_iR hw (run_V (As := [.int (nI t)]) (rest := []) (np := 1) hf hw (kn_X8_last l E _  t  (show t < 3 from ht) hI (show 1 ≤ rN (μ.1 8) t from (by unfold rN; omega))) ⟨gl_V q267 q268 q269 q5 q270, by decide +kernel⟩ ⟨rfl, rfl, Nat.le_of_ble_eq_true rfl, Nat.le_of_ble_eq_true rfl⟩ (by decide) (c_R E _) rfl rfl hl.1 rfl (Nat.le_of_ble_eq_true rfl) dX8_inverseOf_51 ⟨Nat.zero_le _, Nat.zero_le _⟩) (fun H locs hw => ?_)
        refine lv_istore (lv' := [(5, .int (rL (μ.1 8) t)), (4, .int ((μ.1 8 (11 + 25 * t + 0)))), (0, .ref (E.1 (232))), (1, .int (nI t)), (2, .long (w))]) hx hb dX8_inverseOf_54 hl (by decide) rfl (fun ls hl => ?_)
        have key_56 : ∀ (f : Nat) (x : Int32) (y : Int32), y.toInt - x.toInt < (f : Int) → x.toInt ≤ y.toInt → -200000 ≤ x.toInt → y.toInt ≤ (rL (μ.1 8) t).toInt ∧ y.toInt ≤ 850000 → 2 ≤ rN (μ.1 8) t → sp_X8_inverseOf (μ.1 8) t w = lp_X8_inverseOf_56 (μ.1 8) t w f x y → ∀ (ls : Array Slot) (H : Heap) (locs : List Loc), lv_has ls 7 [(0, .ref (E.1 (232))), (1, .int (nI t)), (2, .long (w)), (4, .int (x)), (5, .int (y))] → Wk E μ s H locs → W p l e ({ frames := 2, cells := 0, slots := 0, locals := 47 }) s m args below meth c H locs 0 0 (MQ below (va_Qi (fun r u => r = ((sp_X8_inverseOf (μ.1 8) t w, μ)).1 ∧ u = ((sp_X8_inverseOf (μ.1 8) t w, μ)).2) (fun u t => WdU E u t) (inE E)) args s 0 0 (inE E)) (F0 m 56 ls []) := by
          intro f
          induction f with
          | zero => intro x y h1 h2 h3 h4 h5 hq ls H locs hl hw; exfalso; omega
          | succ f ih =>
            intro x y h1 h2 h3 h4 h5 hq ls H locs hl hw
            refine lv_iload hx hb dX8_inverseOf_56 (lv_at hl 3 rfl) ?_
            refine lv_iload hx hb dX8_inverseOf_58 (lv_at hl 4 rfl) ?_
            refine lv_icmp_ge (tgt := 104) hx hb dX8_inverseOf_60 (by decide) (fun c5 => ?_) (fun c5 => ?_)
            · refine lv_iload hx hb dX8_inverseOf_104 (lv_at hl 3 rfl) ?_
              exact e_i hf hr hlocks hw rfl (congrArg (fun z => (z, μ)) ((hq).trans ((if_pos c5).trans rfl))) dX8_inverseOf_106
            · refine lv_iload hx hb dX8_inverseOf_63 (lv_at hl 3 rfl) ?_
              refine lv_iload hx hb dX8_inverseOf_65 (lv_at hl 4 rfl) ?_
              refine lv_iload hx hb dX8_inverseOf_67 (lv_at hl 3 rfl) ?_
              refine lv_isub hx hb dX8_inverseOf_69 ?_
              refine lv_iconst (v := 2) hx hb dX8_inverseOf_70 (by decide) ?_
              refine lv_idiv hx hb dX8_inverseOf_71 (by decide) ?_
              refine lv_iadd hx hb dX8_inverseOf_72 ?_
              refine lv_istore (lv' := [(6, .int (x + ((y - x) / 2))), (0, .ref (E.1 (232))), (1, .int (nI t)), (2, .long (w)), (4, .int (x)), (5, .int (y))]) hx hb dX8_inverseOf_73 hl (by decide) rfl (fun ls hl => ?_)
              refine lv_aload_n hx hb dX8_inverseOf_75 rfl (lv_at hl 1 rfl) ?_
              refine lv_iload_n hx hb dX8_inverseOf_76 rfl (lv_at hl 2 rfl) ?_
              refine lv_iload hx hb dX8_inverseOf_77 (lv_at hl 0 rfl) ?_
              refine c_iR hw (run_V (As := [.int (nI t), .int (x + ((y - x) / 2))]) (rest := []) (np := 2) hf hw (k_X8_ratioAt l E _  t (x + ((y - x) / 2))  (show t < 3 from ht) hI hT h5 (by rw [Int32.le_iff_toInt_le, bs_mid h2 h3 h4.2]; have q := h4.1; omega)) ⟨gl_V q271 q272 q273 q5 q274, by decide +kernel⟩ ⟨rfl, rfl, Nat.le_of_ble_eq_true rfl, Nat.le_of_ble_eq_true rfl⟩ (by decide) (c_R E _) rfl rfl hl.1 rfl (Nat.le_of_ble_eq_true rfl) dX8_inverseOf_79 ⟨Nat.zero_le _, Nat.zero_le _⟩) (fun H locs hw => ?_)
              refine lv_i2l hx hb dX8_inverseOf_82 rfl ?_
              refine lv_lload_n hx hb dX8_inverseOf_83 rfl (lv_at hl 3 rfl) ?_
              refine W.lcmp hx hb dX8_inverseOf_84 ?_
              refine lv_if_lt (tgt := 95) hx hb dX8_inverseOf_85 (by decide) (fun c6 => ?_) (fun c6 => ?_)
              · replace c6 := (lg_cmp_lt _ _).mp c6
                refine lv_iload hx hb dX8_inverseOf_95 (lv_at hl 0 rfl) ?_
                refine lv_iconst (v := 1) hx hb dX8_inverseOf_97 (by decide) ?_
                refine lv_iadd hx hb dX8_inverseOf_98 ?_
                refine lv_istore (lv' := [(4, .int ((x + ((y - x) / 2)) + 1)), (6, .int (x + ((y - x) / 2))), (0, .ref (E.1 (232))), (1, .int (nI t)), (2, .long (w)), (5, .int (y))]) hx hb dX8_inverseOf_99 hl (by decide) rfl (fun ls hl => ?_)
                refine lv_goto (tgt := 56) hx hb dX8_inverseOf_101 (by decide) ?_
                exact ih ((x + ((y - x) / 2)) + 1) y (by have q := bs_mid1 h2 h3 h4.2; have q2 : ¬ y.toInt ≤ x.toInt := fun z => c5 (Int32.le_iff_toInt_le.mpr z); have q3 := h4.1; first | omega | (rw [q]; omega)) (by have q := bs_mid1 h2 h3 h4.2; have q2 : ¬ y.toInt ≤ x.toInt := fun z => c5 (Int32.le_iff_toInt_le.mpr z); have q3 := h4.1; first | omega | (rw [q]; omega)) (by have q := bs_mid1 h2 h3 h4.2; have q2 : ¬ y.toInt ≤ x.toInt := fun z => c5 (Int32.le_iff_toInt_le.mpr z); have q3 := h4.1; first | omega | (rw [q]; omega)) h4 h5 (((hq).trans ((if_neg c5).trans ((if_pos c6).trans rfl)))) _ _ _ (lv_sub hl [2, 3, 4, 0, 5] rfl) hw
              · replace c6 := mt (lg_cmp_lt _ _).mpr c6
                refine lv_iload hx hb dX8_inverseOf_88 (lv_at hl 0 rfl) ?_
                refine lv_istore (lv' := [(5, .int (x + ((y - x) / 2))), (6, .int (x + ((y - x) / 2))), (0, .ref (E.1 (232))), (1, .int (nI t)), (2, .long (w)), (4, .int (x))]) hx hb dX8_inverseOf_90 hl (by decide) rfl (fun ls hl => ?_)
                refine lv_goto (tgt := 101) hx hb dX8_inverseOf_92 (by decide) ?_
                refine lv_goto (tgt := 56) hx hb dX8_inverseOf_101 (by decide) ?_
                exact ih x (x + ((y - x) / 2)) (by have q := bs_mid h2 h3 h4.2; have q2 : ¬ y.toInt ≤ x.toInt := fun z => c5 (Int32.le_iff_toInt_le.mpr z); have q3 := h4.1; first | omega | (rw [q]; omega)) (by have q := bs_mid h2 h3 h4.2; have q2 : ¬ y.toInt ≤ x.toInt := fun z => c5 (Int32.le_iff_toInt_le.mpr z); have q3 := h4.1; first | omega | (rw [q]; omega)) (by have q := bs_mid h2 h3 h4.2; have q2 : ¬ y.toInt ≤ x.toInt := fun z => c5 (Int32.le_iff_toInt_le.mpr z); have q3 := h4.1; first | omega | (rw [q]; omega)) ⟨(by have q := bs_mid h2 h3 h4.2; have q2 : ¬ y.toInt ≤ x.toInt := fun z => c5 (Int32.le_iff_toInt_le.mpr z); have q3 := h4.1; first | omega | (rw [q]; omega)), (by have q := bs_mid h2 h3 h4.2; have q2 : ¬ y.toInt ≤ x.toInt := fun z => c5 (Int32.le_iff_toInt_le.mpr z); have q3 := h4.1; first | omega | (rw [q]; omega))⟩ h5 (((hq).trans ((if_neg c5).trans ((if_neg c6).trans rfl)))) _ _ _ (lv_sub hl [2, 3, 4, 5, 0] rfl) hw
        exact key_56 (((rL (μ.1 8) t).toInt - (μ.1 8 (11 + 25 * t + 0)).toInt).toNat + 1) (μ.1 8 (11 + 25 * t + 0)) (rL (μ.1 8) t) (by have q := (rt_fl hT (show 2 ≤ rN (μ.1 8) t from (by unfold rN; omega))); omega) (rt_fl hT (show 2 ≤ rN (μ.1 8) t from (by unfold rN; omega))).1 (rt_fl hT (show 2 ≤ rN (μ.1 8) t from (by unfold rN; omega))).2.1 ⟨Int.le_refl _, (rt_fl hT (show 2 ≤ rN (μ.1 8) t from (by unfold rN; omega))).2.2⟩ (show 2 ≤ rN (μ.1 8) t from (by unfold rN; omega)) (((if_neg c2).trans ((if_neg c3).trans ((if_pos c4).trans rfl)))) _ _ _ (lv_sub hl [2, 3, 4, 1, 0] rfl) hw
      · replace c4 := mt (lg_cmp_le _ _).mpr c4
        refine lv_ldc hx hb hf.2.2.2.1 (hf.2.2.2.2 _ q242) dX8_inverseOf_39 ?_
        exact e_i hf hr hlocks hw rfl (congrArg (fun z => (z, μ)) ((if_neg c2).trans ((if_neg c3).trans ((if_neg c4).trans rfl)))) dX8_inverseOf_41
