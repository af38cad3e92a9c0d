/-! ===== the reference: counting, nodes ===== -/
theorem na_rng {a L H : Int32} (l h : Nat) (hL : L = nI l) (hH : H = nI h) (hk : h < 2 ^ 31 - 1) (hlh : l ≤ h) (c : L ≤ a ∧ a ≤ H) : a = nI a.toNatClampNeg ∧ l ≤ a.toNatClampNeg ∧ a.toNatClampNeg < h + 1 := by
  obtain ⟨c1, c2⟩ := c
  subst hL hH
  obtain ⟨j, hj, rfl⟩ := nI_of (x := a) (fun q => by rw [Int32.le_iff_toInt_le, nI_toInt (by omega)] at c1; rw [Int32.lt_iff_toInt_lt, Int32.toInt_zero] at q; omega)
  rw [nI_leI (by omega) hj] at c1
  rw [nI_leI hj (by omega)] at c2
  rw [nI_clamp hj]
  exact ⟨rfl, c1, by omega⟩
def lp_X8_count_10 (M : Nat → Nat → Int32)  (a : Int32) : Nat → Int32 → Int32 → Int32 → Nat → Int32
  | 0, _, _, _, _ => 0
  | f + 1, u, v, w, k =>
    if (nI ((M 8 1).toNatClampNeg) : Int32) ≤ nI k then
      if (a : Int32) = 0 then
        nI ((M 8 0).toNatClampNeg)
      else
        if (a : Int32) = 1 then
          nI ((M 8 1).toNatClampNeg)
        else
          if (a : Int32) = 2 then
            u
          else
            if (a : Int32) = 3 then
              v
            else
              if (a : Int32) = 4 then
                w
              else
                if (a : Int32) = 5 then
                  if (M 8 9 : Int32) = (-1) then
                    (-2000000004)
                  else
                    M 8 9
                else
                  if (a : Int32) = 6 then
                    M 7 0
                  else
                    if (a : Int32) = 7 then
                      M 7 1
                    else
                      if (a : Int32) = 8 then
                        if (20 : Int32) ≤ a ∧ a ≤ (26 : Int32) then
                          M 8 (2 + (a.toNatClampNeg) - 20)
                        else
                          (-2000000001)
                      else
                        if (a : Int32) = 9 then
                          if (20 : Int32) ≤ a ∧ a ≤ (26 : Int32) then
                            M 8 (2 + (a.toNatClampNeg) - 20)
                          else
                            (-2000000001)
                        else
                          if (a : Int32) = 10 then
                            if 0 ≤ (nI (10 - 10)) ∧ (nI (10 - 10)) ≤ (M 8 0) - 1 then
                              nI ((M 8 (10 + 25 * (10 - 10))).toNatClampNeg)
                            else
                              (-2000000004)
                          else
                            if (a : Int32) = 11 then
                              if 0 ≤ (nI (11 - 10)) ∧ (nI (11 - 10)) ≤ (M 8 0) - 1 then
                                nI ((M 8 (10 + 25 * (11 - 10))).toNatClampNeg)
                              else
                                (-2000000004)
                            else
                              if (a : Int32) = 12 then
                                if 0 ≤ (nI (12 - 10)) ∧ (nI (12 - 10)) ≤ (M 8 0) - 1 then
                                  nI ((M 8 (10 + 25 * (12 - 10))).toNatClampNeg)
                                else
                                  (-2000000004)
                              else
                                if (20 : Int32) ≤ a ∧ a ≤ (26 : Int32) then
                                  M 8 (2 + (a.toNatClampNeg) - 20)
                                else
                                  (-2000000001)
    else
      if ((M 8 (85 + 29 * k + 13)) : Int32) = (-1) then
        lp_X8_count_10 M a f (u + 0) (v + (M 8 (85 + 29 * k + 17))) (w + (M 8 (85 + 29 * k + 18))) (k + 1)
      else
        lp_X8_count_10 M a f (u + 1) (v + (M 8 (85 + 29 * k + 17))) (w + (M 8 (85 + 29 * k + 18))) (k + 1)
def sp_X8_count (M : Nat → Nat → Int32)  (a : Int32) : Int32 :=
  lp_X8_count_10 M a 8 (0 : Int32) (0 : Int32) (0 : Int32) 0
set_option maxHeartbeats 4000000 in
set_option maxRecDepth 100000 in
theorem k_X8_count (l : Launch) (E : En) (μ : Mu)  (a : Int32) (hI : RI (μ.1 8)) : MtI l yX8_count cX8_count 6 .int ({ frames := 2, cells := 0, slots := 0, locals := 43 }) [.ref (E.1 (232)), .int (a)] E μ ((sp_X8_count μ.1 a), μ) := by
  refine mt_of (by decide +kernel) (Nat.le_of_ble_eq_true rfl) ?_
  intro p e s m args below meth c ls hf hr hlocks hl hw
  have hx := hf.1
  have hb := hf.2.1
  have hl : lv_has ls 6 [(0, .ref (E.1 (232))), (1, .int (a))] := hl
  have hb0 := hI.2.1.2
  refine lv_iconst (v := 0) hx hb dX8_count_0 (by decide) ?_
  refine lv_istore_n (lv' := [(2, .int 0), (0, .ref (E.1 (232))), (1, .int (a))]) hx hb dX8_count_1 rfl hl (by decide) rfl (fun ls hl => ?_)
  refine lv_iconst (v := 0) hx hb dX8_count_2 (by decide) ?_
  refine lv_istore_n (lv' := [(3, .int 0), (2, .int 0), (0, .ref (E.1 (232))), (1, .int (a))]) hx hb dX8_count_3 rfl hl (by decide) rfl (fun ls hl => ?_)
  refine lv_iconst (v := 0) hx hb dX8_count_4 (by decide) ?_
  refine lv_istore (lv' := [(4, .int 0), (3, .int 0), (2, .int 0), (0, .ref (E.1 (232))), (1, .int (a))]) hx hb dX8_count_5 hl (by decide) rfl (fun ls hl => ?_)
  refine lv_iconst (v := 0) hx hb dX8_count_7 (by decide) ?_
  refine lv_istore (lv' := [(5, .int 0), (4, .int 0), (3, .int 0), (2, .int 0), (0, .ref (E.1 (232))), (1, .int (a))]) hx hb dX8_count_8 hl (by decide) rfl (fun ls hl => ?_)
  have key_10 : ∀ (f : Nat) (u : Int32) (v : Int32) (w : Int32) (k : Nat), k + f = 8 → k ≤ 7 → sp_X8_count μ.1 a = lp_X8_count_10 μ.1 a f u v w k → ∀ (ls : Array Slot) (H : Heap) (locs : List Loc), lv_has ls 6 [(0, .ref (E.1 (232))), (1, .int (a)), (2, .int (u)), (3, .int (v)), (4, .int (w)), (5, .int (nI k))] → Wk E μ s H locs → W p l e ({ frames := 2, cells := 0, slots := 0, locals := 43 }) s m args below meth c H locs 0 0 (MQ below (va_Qi (fun r u => r = ((sp_X8_count μ.1 a, μ)).1 ∧ u = ((sp_X8_count μ.1 a, μ)).2) (fun u t => WdU E u t) (inE E)) args s 0 0 (inE E)) (F0 m 10 ls []) := by
    intro f
    induction f with
    | zero => intro u v w k h1 h2 hq ls H locs hl hw; exfalso; omega
    | succ f ih =>
      intro u v w k h1 h2 hq ls H locs hl hw
      refine lv_iload hx hb dX8_count_10 (lv_at hl 5 rfl) ?_
      refine lv_aload_n hx hb dX8_count_12 rfl (lv_at hl 0 rfl) ?_
      refine g_f hw hf (by decide) (c_R E _) rfl inlX8 0 (by decide) rfl q90 rfl dX8_count_13 ?_
      refine lv_iconst (v := 1) hx hb dX8_count_16 (by decide) ?_
      refine g_a hw hf (by decide) (c_Rs E _) (vp_lit 1 259 (by decide) (by decide)) (tr_at (y := 1) (by decide) (by decide)) dX8_count_17 ?_
      have hb1 := (hI).2.1.2
      refine fold_i (show μ.1 8 1 = nI ((μ.1 8 1).toNatClampNeg) from (hI).2.1.1) ?_
      refine lv_icmp_ge (tgt := 71) hx hb dX8_count_18 (by decide) (fun c2 => ?_) (fun c2 => ?_)
      · have c2n : ((μ.1 8 1).toNatClampNeg) ≤ k := by have q := (nI_leI (a := ((μ.1 8 1).toNatClampNeg)) (b := k) (by omega) (by omega)); first | exact q.mp c2 | exact fun z => c2 (q.mpr z)
        refine lv_iload_n hx hb dX8_count_71 rfl (lv_at hl 1 rfl) ?_
        by_cases c3 : a = 0
        · refine lv_tableIn (off := 68) (tgt := 140) hx hb dX8_count_72 (by rw [c3]; decide) (by rw [c3]; decide) (by rw [c3]; rfl) (by decide) ?_
          refine lv_aload_n hx hb dX8_count_140 rfl (lv_at hl 0 rfl) ?_
          refine g_f hw hf (by decide) (c_R E _) rfl inlX8 0 (by decide) rfl q90 rfl dX8_count_141 ?_
          refine lv_iload_n hx hb dX8_count_144 rfl (lv_at hl 1 rfl) ?_
          refine fold_i (show a = nI (0) from (c3.trans (by decide))) ?_
          refine g_a hw hf (by decide) (c_Rs E _) (vp_in_nI (show 0 < 259 from (by decide)) (by decide)) (tr_at (y := 0) (by decide) (nI_clamp (Nat.lt_trans (show 0 < 259 from (by decide)) (by decide)))) dX8_count_145 ?_
          have hb4 := (hI).1.2
          refine fold_i (show μ.1 8 0 = nI ((μ.1 8 0).toNatClampNeg) from (hI).1.1) ?_
          exact e_i hf hr hlocks hw rfl (congrArg (fun z => (z, μ)) ((hq).trans ((if_pos c2).trans ((if_pos c3).trans rfl)))) dX8_count_146
        · skip
          by_cases c5 : a = 1
          · refine lv_tableIn (off := 68) (tgt := 140) hx hb dX8_count_72 (by rw [c5]; decide) (by rw [c5]; decide) (by rw [c5]; rfl) (by decide) ?_
            refine lv_aload_n hx hb dX8_count_140 rfl (lv_at hl 0 rfl) ?_
            refine g_f hw hf (by decide) (c_R E _) rfl inlX8 0 (by decide) rfl q90 rfl dX8_count_141 ?_
            refine lv_iload_n hx hb dX8_count_144 rfl (lv_at hl 1 rfl) ?_
            refine fold_i (show a = nI (1) from (c5.trans (by decide))) ?_
            refine g_a hw hf (by decide) (c_Rs E _) (vp_in_nI (show 1 < 259 from (by decide)) (by decide)) (tr_at (y := 1) (by decide) (nI_clamp (Nat.lt_trans (show 1 < 259 from (by decide)) (by decide)))) dX8_count_145 ?_
            refine fold_i (show μ.1 8 1 = nI ((μ.1 8 1).toNatClampNeg) from (hI).2.1.1) ?_
            exact e_i hf hr hlocks hw rfl (congrArg (fun z => (z, μ)) ((hq).trans ((if_pos c2).trans ((if_neg c3).trans ((if_pos c5).trans rfl))))) dX8_count_146
          · skip
            by_cases c6 : a = 2
            · refine lv_tableIn (off := 75) (tgt := 147) hx hb dX8_count_72 (by rw [c6]; decide) (by rw [c6]; decide) (by rw [c6]; rfl) (by decide) ?_
              refine lv_iload_n hx hb dX8_count_147 rfl (lv_at hl 2 rfl) ?_
              exact e_i hf hr hlocks hw rfl (congrArg (fun z => (z, μ)) ((hq).trans ((if_pos c2).trans ((if_neg c3).trans ((if_neg c5).trans ((if_pos c6).trans rfl)))))) dX8_count_148
            · skip
              by_cases c7 : a = 3
              · refine lv_tableIn (off := 77) (tgt := 149) hx hb dX8_count_72 (by rw [c7]; decide) (by rw [c7]; decide) (by rw [c7]; rfl) (by decide) ?_
                refine lv_iload_n hx hb dX8_count_149 rfl (lv_at hl 3 rfl) ?_
                exact e_i hf hr hlocks hw rfl (congrArg (fun z => (z, μ)) ((hq).trans ((if_pos c2).trans ((if_neg c3).trans ((if_neg c5).trans ((if_neg c6).trans ((if_pos c7).trans rfl))))))) dX8_count_150
              · skip
                by_cases c8 : a = 4
                · refine lv_tableIn (off := 79) (tgt := 151) hx hb dX8_count_72 (by rw [c8]; decide) (by rw [c8]; decide) (by rw [c8]; rfl) (by decide) ?_
                  refine lv_iload hx hb dX8_count_151 (lv_at hl 4 rfl) ?_
                  exact e_i hf hr hlocks hw rfl (congrArg (fun z => (z, μ)) ((hq).trans ((if_pos c2).trans ((if_neg c3).trans ((if_neg c5).trans ((if_neg c6).trans ((if_neg c7).trans ((if_pos c8).trans rfl)))))))) dX8_count_153
                · skip
                  by_cases c9 : a = 5
                  · refine lv_tableIn (off := 82) (tgt := 154) hx hb dX8_count_72 (by rw [c9]; decide) (by rw [c9]; decide) (by rw [c9]; rfl) (by decide) ?_
                    refine lv_aload_n hx hb dX8_count_154 rfl (lv_at hl 0 rfl) ?_
                    refine g_f hw hf (by decide) (c_R E _) rfl inlX8 0 (by decide) rfl q90 rfl dX8_count_155 ?_
                    refine lv_bipush (v := 9) hx hb dX8_count_158 (by decide) ?_
                    refine g_a hw hf (by decide) (c_Rs E _) (vp_lit 9 259 (by decide) (by decide)) (tr_at (y := 9) (by decide) (by decide)) dX8_count_160 ?_
                    refine lv_iconst (v := (-1)) hx hb dX8_count_161 (by decide) ?_
                    refine lv_icmp_ne (tgt := 170) hx hb dX8_count_162 (by decide) (fun c10 => ?_) (fun c10 => ?_)
                    · refine lv_aload_n hx hb dX8_count_170 rfl (lv_at hl 0 rfl) ?_
                      refine g_f hw hf (by decide) (c_R E _) rfl inlX8 0 (by decide) rfl q90 rfl dX8_count_171 ?_
                      refine lv_bipush (v := 9) hx hb dX8_count_174 (by decide) ?_
                      refine g_a hw hf (by decide) (c_Rs E _) (vp_lit 9 259 (by decide) (by decide)) (tr_at (y := 9) (by decide) (by decide)) dX8_count_176 ?_
                      exact e_i hf hr hlocks hw rfl (congrArg (fun z => (z, μ)) ((hq).trans ((if_pos c2).trans ((if_neg c3).trans ((if_neg c5).trans ((if_neg c6).trans ((if_neg c7).trans ((if_neg c8).trans ((if_pos c9).trans ((if_neg c10).trans rfl)))))))))) dX8_count_177
                    · refine lv_ldc hx hb hf.2.2.2.1 (hf.2.2.2.2 _ q242) dX8_count_165 ?_
                      refine lv_goto (tgt := 177) hx hb dX8_count_167 (by decide) ?_
                      exact e_i hf hr hlocks hw rfl (congrArg (fun z => (z, μ)) ((hq).trans ((if_pos c2).trans ((if_neg c3).trans ((if_neg c5).trans ((if_neg c6).trans ((if_neg c7).trans ((if_neg c8).trans ((if_pos c9).trans ((if_pos c10).trans rfl)))))))))) dX8_count_177
                  · skip
                    by_cases c11 : a = 6
                    · refine lv_tableIn (off := 106) (tgt := 178) hx hb dX8_count_72 (by rw [c11]; decide) (by rw [c11]; decide) (by rw [c11]; rfl) (by decide) ?_
                      refine lv_aload_n hx hb dX8_count_178 rfl (lv_at hl 0 rfl) ?_
                      refine g_f hw hf (by decide) (c_R E _) rfl inlX8 4 (by decide) rfl q155 rfl dX8_count_179 ?_
                      exact e_i hf hr hlocks hw rfl (congrArg (fun z => (z, μ)) ((hq).trans ((if_pos c2).trans ((if_neg c3).trans ((if_neg c5).trans ((if_neg c6).trans ((if_neg c7).trans ((if_neg c8).trans ((if_neg c9).trans ((if_pos c11).trans rfl)))))))))) dX8_count_182
                    · skip
                      by_cases c12 : a = 7
                      · refine lv_tableIn (off := 111) (tgt := 183) hx hb dX8_count_72 (by rw [c12]; decide) (by rw [c12]; decide) (by rw [c12]; rfl) (by decide) ?_
                        refine lv_aload_n hx hb dX8_count_183 rfl (lv_at hl 0 rfl) ?_
                        refine g_f hw hf (by decide) (c_R E _) rfl inlX8 6 (by decide) rfl q896 rfl dX8_count_184 ?_
                        exact e_i hf hr hlocks hw rfl (congrArg (fun z => (z, μ)) ((hq).trans ((if_pos c2).trans ((if_neg c3).trans ((if_neg c5).trans ((if_neg c6).trans ((if_neg c7).trans ((if_neg c8).trans ((if_neg c9).trans ((if_neg c11).trans ((if_pos c12).trans rfl))))))))))) dX8_count_187
                      · skip
                        by_cases c13 : a = 8
                        · refine lv_tableIn (off := 141) (tgt := 213) hx hb dX8_count_72 (by rw [c13]; decide) (by rw [c13]; decide) (by rw [c13]; rfl) (by decide) ?_
                          refine lv_iload_n hx hb dX8_count_213 rfl (lv_at hl 1 rfl) ?_
                          refine lv_bipush (v := 20) hx hb dX8_count_214 (by decide) ?_
                          refine lv_bipush (v := 26) hx hb dX8_count_216 (by decide) ?_
                          refine c_iR hw (run_S (As := [.int (a), .int 20, .int 26]) (rest := []) (np := 3) hf hw (kn_X8_in l E _  a (20 : Int32) (26 : Int32)  ) ⟨gl_S q207 q208 q5 q209, by decide +kernel⟩ ⟨rfl, rfl, Nat.le_of_ble_eq_true rfl, Nat.le_of_ble_eq_true rfl⟩ rfl hl.1 rfl (Nat.le_of_ble_eq_true rfl) dX8_count_218 ⟨Nat.zero_le _, Nat.zero_le _⟩) (fun H locs hw => ?_)
                          refine lv_if_eq (tgt := 238) hx hb dX8_count_221 (by decide) (fun c14 => ?_) (fun c14 => ?_)
                          · replace c14 := (bz_0 _).mp c14
                            refine lv_ldc hx hb hf.2.2.2.1 (hf.2.2.2.2 _ q154) dX8_count_238 ?_
                            exact e_i hf hr hlocks hw rfl (congrArg (fun z => (z, μ)) ((hq).trans ((if_pos c2).trans ((if_neg c3).trans ((if_neg c5).trans ((if_neg c6).trans ((if_neg c7).trans ((if_neg c8).trans ((if_neg c9).trans ((if_neg c11).trans ((if_neg c12).trans ((if_pos c13).trans ((if_neg c14).trans rfl))))))))))))) dX8_count_240
                          · replace c14 := (bz_n0 _).mp c14
                            refine lv_aload_n hx hb dX8_count_224 rfl (lv_at hl 0 rfl) ?_
                            refine g_f hw hf (by decide) (c_R E _) rfl inlX8 0 (by decide) rfl q90 rfl dX8_count_225 ?_
                            refine lv_iconst (v := 2) hx hb dX8_count_228 (by decide) ?_
                            refine lv_iload_n hx hb dX8_count_229 rfl (lv_at hl 1 rfl) ?_
                            have c14q := na_rng 20 26 rfl rfl (by decide) (by decide) c14
                            have hb15 := c14q.2
                            refine fold_i (show a = nI ((a.toNatClampNeg)) from c14q.1) ?_
                            refine lv_iadd hx hb dX8_count_230 ?_
                            refine fold_i (show (2 : Int32) + nI ((a.toNatClampNeg)) = nI (2 + (a.toNatClampNeg)) from nI_add (2) ((a.toNatClampNeg))) ?_
                            refine lv_bipush (v := 20) hx hb dX8_count_231 (by decide) ?_
                            refine lv_isub hx hb dX8_count_233 ?_
                            refine fold_i (show nI (2 + (a.toNatClampNeg)) - 20 = nI (2 + (a.toNatClampNeg) - 20) from pk_sub (a := 2 + (a.toNatClampNeg)) (b := 20) (by omega)) ?_
                            refine g_a hw hf (by decide) (c_Rs E _) (vp_in_nI (show 2 + (a.toNatClampNeg) - 20 < 259 from (by omega)) (by decide)) (tr_at (y := 2 + (a.toNatClampNeg) - 20) (by omega) (nI_clamp (Nat.lt_trans (show 2 + (a.toNatClampNeg) - 20 < 259 from (by omega)) (by decide)))) dX8_count_234 ?_
                            refine lv_goto (tgt := 240) hx hb dX8_count_235 (by decide) ?_
                            exact e_i hf hr hlocks hw rfl (congrArg (fun z => (z, μ)) ((hq).trans ((if_pos c2).trans ((if_neg c3).trans ((if_neg c5).trans ((if_neg c6).trans ((if_neg c7).trans ((if_neg c8).trans ((if_neg c9).trans ((if_neg c11).trans ((if_neg c12).trans ((if_pos c13).trans ((if_pos c14).trans rfl))))))))))))) dX8_count_240
                        · skip
                          by_cases c16 : a = 9
                          · refine lv_tableIn (off := 141) (tgt := 213) hx hb dX8_count_72 (by rw [c16]; decide) (by rw [c16]; decide) (by rw [c16]; rfl) (by decide) ?_
                            refine lv_iload_n hx hb dX8_count_213 rfl (lv_at hl 1 rfl) ?_
                            refine lv_bipush (v := 20) hx hb dX8_count_214 (by decide) ?_
                            refine lv_bipush (v := 26) hx hb dX8_count_216 (by decide) ?_
                            refine c_iR hw (run_S (As := [.int (a), .int 20, .int 26]) (rest := []) (np := 3) hf hw (kn_X8_in l E _  a (20 : Int32) (26 : Int32)  ) ⟨gl_S q207 q208 q5 q209, by decide +kernel⟩ ⟨rfl, rfl, Nat.le_of_ble_eq_true rfl, Nat.le_of_ble_eq_true rfl⟩ rfl hl.1 rfl (Nat.le_of_ble_eq_true rfl) dX8_count_218 ⟨Nat.zero_le _, Nat.zero_le _⟩) (fun H locs hw => ?_)
                            refine lv_if_eq (tgt := 238) hx hb dX8_count_221 (by decide) (fun c17 => ?_) (fun c17 => ?_)
                            · replace c17 := (bz_0 _).mp c17
                              refine lv_ldc hx hb hf.2.2.2.1 (hf.2.2.2.2 _ q154) dX8_count_238 ?_
                              exact e_i hf hr hlocks hw rfl (congrArg (fun z => (z, μ)) ((hq).trans ((if_pos c2).trans ((if_neg c3).trans ((if_neg c5).trans ((if_neg c6).trans ((if_neg c7).trans ((if_neg c8).trans ((if_neg c9).trans ((if_neg c11).trans ((if_neg c12).trans ((if_neg c13).trans ((if_pos c16).trans ((if_neg c17).trans rfl)))))))))))))) dX8_count_240
                            · replace c17 := (bz_n0 _).mp c17
                              refine lv_aload_n hx hb dX8_count_224 rfl (lv_at hl 0 rfl) ?_
                              refine g_f hw hf (by decide) (c_R E _) rfl inlX8 0 (by decide) rfl q90 rfl dX8_count_225 ?_
                              refine lv_iconst (v := 2) hx hb dX8_count_228 (by decide) ?_
                              refine lv_iload_n hx hb dX8_count_229 rfl (lv_at hl 1 rfl) ?_
                              have c17q := na_rng 20 26 rfl rfl (by decide) (by decide) c17
                              have hb18 := c17q.2
                              refine fold_i (show a = nI ((a.toNatClampNeg)) from c17q.1) ?_
                              refine lv_iadd hx hb dX8_count_230 ?_
                              refine fold_i (show (2 : Int32) + nI ((a.toNatClampNeg)) = nI (2 + (a.toNatClampNeg)) from nI_add (2) ((a.toNatClampNeg))) ?_
                              refine lv_bipush (v := 20) hx hb dX8_count_231 (by decide) ?_
                              refine lv_isub hx hb dX8_count_233 ?_
                              refine fold_i (show nI (2 + (a.toNatClampNeg)) - 20 = nI (2 + (a.toNatClampNeg) - 20) from pk_sub (a := 2 + (a.toNatClampNeg)) (b := 20) (by omega)) ?_
                              refine g_a hw hf (by decide) (c_Rs E _) (vp_in_nI (show 2 + (a.toNatClampNeg) - 20 < 259 from (by omega)) (by decide)) (tr_at (y := 2 + (a.toNatClampNeg) - 20) (by omega) (nI_clamp (Nat.lt_trans (show 2 + (a.toNatClampNeg) - 20 < 259 from (by omega)) (by decide)))) dX8_count_234 ?_
                              refine lv_goto (tgt := 240) hx hb dX8_count_235 (by decide) ?_
                              exact e_i hf hr hlocks hw rfl (congrArg (fun z => (z, μ)) ((hq).trans ((if_pos c2).trans ((if_neg c3).trans ((if_neg c5).trans ((if_neg c6).trans ((if_neg c7).trans ((if_neg c8).trans ((if_neg c9).trans ((if_neg c11).trans ((if_neg c12).trans ((if_neg c13).trans ((if_pos c16).trans ((if_pos c17).trans rfl)))))))))))))) dX8_count_240
                          · skip
                            by_cases c19 : a = 10
                            · refine lv_tableIn (off := 116) (tgt := 188) hx hb dX8_count_72 (by rw [c19]; decide) (by rw [c19]; decide) (by rw [c19]; rfl) (by decide) ?_
                              refine lv_aload_n hx hb dX8_count_188 rfl (lv_at hl 0 rfl) ?_
                              refine lv_iload_n hx hb dX8_count_189 rfl (lv_at hl 1 rfl) ?_
                              refine fold_i (show a = nI (10) from (c19.trans (by decide))) ?_
                              refine lv_bipush (v := 10) hx hb dX8_count_190 (by decide) ?_
                              refine lv_isub hx hb dX8_count_192 ?_
                              refine fold_i (show nI (10) - 10 = nI (10 - 10) from pk_sub (a := 10) (b := 10) (by omega)) ?_
                              refine c_iR hw (run_V (As := [.int (nI (10 - 10))]) (rest := []) (np := 1) hf hw (kn_X8_isTable l E _  (nI (10 - 10))  ) ⟨gl_V q203 q204 q205 q5 q206, by decide +kernel⟩ ⟨rfl, rfl, Nat.le_of_ble_eq_true rfl, Nat.le_of_ble_eq_true rfl⟩ (by decide) (c_R E _) rfl rfl hl.1 rfl (Nat.le_of_ble_eq_true rfl) dX8_count_193 ⟨Nat.zero_le _, Nat.zero_le _⟩) (fun H locs hw => ?_)
                              refine lv_if_eq (tgt := 210) hx hb dX8_count_196 (by decide) (fun c20 => ?_) (fun c20 => ?_)
                              · replace c20 := (bz_0 _).mp c20
                                refine lv_ldc hx hb hf.2.2.2.1 (hf.2.2.2.2 _ q242) dX8_count_210 ?_
                                exact e_i hf hr hlocks hw rfl (congrArg (fun z => (z, μ)) ((hq).trans ((if_pos c2).trans ((if_neg c3).trans ((if_neg c5).trans ((if_neg c6).trans ((if_neg c7).trans ((if_neg c8).trans ((if_neg c9).trans ((if_neg c11).trans ((if_neg c12).trans ((if_neg c13).trans ((if_neg c16).trans ((if_pos c19).trans ((if_neg c20).trans rfl))))))))))))))) dX8_count_212
                              · replace c20 := (bz_n0 _).mp c20
                                refine lv_aload_n hx hb dX8_count_199 rfl (lv_at hl 0 rfl) ?_
                                refine lv_iload_n hx hb dX8_count_200 rfl (lv_at hl 1 rfl) ?_
                                refine fold_i (show a = nI (10) from (c19.trans (by decide))) ?_
                                refine lv_bipush (v := 10) hx hb dX8_count_201 (by decide) ?_
                                refine lv_isub hx hb dX8_count_203 ?_
                                refine fold_i (show nI (10) - 10 = nI (10 - 10) from pk_sub (a := 10) (b := 10) (by omega)) ?_
                                refine c_iR hw (run_V (As := [.int (nI (10 - 10))]) (rest := []) (np := 1) hf hw (kn_X8_nodes l E _  (10 - 10)  (show 10 - 10 < 3 from (by omega))) ⟨gl_V q215 q216 q217 q5 q218, by decide +kernel⟩ ⟨rfl, rfl, Nat.le_of_ble_eq_true rfl, Nat.le_of_ble_eq_true rfl⟩ (by decide) (c_R E _) rfl rfl hl.1 rfl (Nat.le_of_ble_eq_true rfl) dX8_count_204 ⟨Nat.zero_le _, Nat.zero_le _⟩) (fun H locs hw => ?_)
                                have hb21 := ((hI).2.2.1 (10 - 10) (by omega)).2
                                refine fold_i (show μ.1 8 (10 + 25 * (10 - 10)) = nI ((μ.1 8 (10 + 25 * (10 - 10))).toNatClampNeg) from ((hI).2.2.1 (10 - 10) (by omega)).1) ?_
                                refine lv_goto (tgt := 212) hx hb dX8_count_207 (by decide) ?_
                                exact e_i hf hr hlocks hw rfl (congrArg (fun z => (z, μ)) ((hq).trans ((if_pos c2).trans ((if_neg c3).trans ((if_neg c5).trans ((if_neg c6).trans ((if_neg c7).trans ((if_neg c8).trans ((if_neg c9).trans ((if_neg c11).trans ((if_neg c12).trans ((if_neg c13).trans ((if_neg c16).trans ((if_pos c19).trans ((if_pos c20).trans rfl))))))))))))))) dX8_count_212
                            · skip
                              by_cases c22 : a = 11
                              · refine lv_tableIn (off := 116) (tgt := 188) hx hb dX8_count_72 (by rw [c22]; decide) (by rw [c22]; decide) (by rw [c22]; rfl) (by decide) ?_
                                refine lv_aload_n hx hb dX8_count_188 rfl (lv_at hl 0 rfl) ?_
                                refine lv_iload_n hx hb dX8_count_189 rfl (lv_at hl 1 rfl) ?_
                                refine fold_i (show a = nI (11) from (c22.trans (by decide))) ?_
                                refine lv_bipush (v := 10) hx hb dX8_count_190 (by decide) ?_
                                refine lv_isub hx hb dX8_count_192 ?_
                                refine fold_i (show nI (11) - 10 = nI (11 - 10) from pk_sub (a := 11) (b := 10) (by omega)) ?_
                                refine c_iR hw (run_V (As := [.int (nI (11 - 10))]) (rest := []) (np := 1) hf hw (kn_X8_isTable l E _  (nI (11 - 10))  ) ⟨gl_V q203 q204 q205 q5 q206, by decide +kernel⟩ ⟨rfl, rfl, Nat.le_of_ble_eq_true rfl, Nat.le_of_ble_eq_true rfl⟩ (by decide) (c_R E _) rfl rfl hl.1 rfl (Nat.le_of_ble_eq_true rfl) dX8_count_193 ⟨Nat.zero_le _, Nat.zero_le _⟩) (fun H locs hw => ?_)
                                refine lv_if_eq (tgt := 210) hx hb dX8_count_196 (by decide) (fun c23 => ?_) (fun c23 => ?_)
                                · replace c23 := (bz_0 _).mp c23
                                  refine lv_ldc hx hb hf.2.2.2.1 (hf.2.2.2.2 _ q242) dX8_count_210 ?_
                                  exact e_i hf hr hlocks hw rfl (congrArg (fun z => (z, μ)) ((hq).trans ((if_pos c2).trans ((if_neg c3).trans ((if_neg c5).trans ((if_neg c6).trans ((if_neg c7).trans ((if_neg c8).trans ((if_neg c9).trans ((if_neg c11).trans ((if_neg c12).trans ((if_neg c13).trans ((if_neg c16).trans ((if_neg c19).trans ((if_pos c22).trans ((if_neg c23).trans rfl)))))))))))))))) dX8_count_212
                                · replace c23 := (bz_n0 _).mp c23
                                  refine lv_aload_n hx hb dX8_count_199 rfl (lv_at hl 0 rfl) ?_
                                  refine lv_iload_n hx hb dX8_count_200 rfl (lv_at hl 1 rfl) ?_
                                  refine fold_i (show a = nI (11) from (c22.trans (by decide))) ?_
                                  refine lv_bipush (v := 10) hx hb dX8_count_201 (by decide) ?_
                                  refine lv_isub hx hb dX8_count_203 ?_
                                  refine fold_i (show nI (11) - 10 = nI (11 - 10) from pk_sub (a := 11) (b := 10) (by omega)) ?_
                                  refine c_iR hw (run_V (As := [.int (nI (11 - 10))]) (rest := []) (np := 1) hf hw (kn_X8_nodes l E _  (11 - 10)  (show 11 - 10 < 3 from (by omega))) ⟨gl_V q215 q216 q217 q5 q218, by decide +kernel⟩ ⟨rfl, rfl, Nat.le_of_ble_eq_true rfl, Nat.le_of_ble_eq_true rfl⟩ (by decide) (c_R E _) rfl rfl hl.1 rfl (Nat.le_of_ble_eq_true rfl) dX8_count_204 ⟨Nat.zero_le _, Nat.zero_le _⟩) (fun H locs hw => ?_)
                                  have hb24 := ((hI).2.2.1 (11 - 10) (by omega)).2
                                  refine fold_i (show μ.1 8 (10 + 25 * (11 - 10)) = nI ((μ.1 8 (10 + 25 * (11 - 10))).toNatClampNeg) from ((hI).2.2.1 (11 - 10) (by omega)).1) ?_
                                  refine lv_goto (tgt := 212) hx hb dX8_count_207 (by decide) ?_
                                  exact e_i hf hr hlocks hw rfl (congrArg (fun z => (z, μ)) ((hq).trans ((if_pos c2).trans ((if_neg c3).trans ((if_neg c5).trans ((if_neg c6).trans ((if_neg c7).trans ((if_neg c8).trans ((if_neg c9).trans ((if_neg c11).trans ((if_neg c12).trans ((if_neg c13).trans ((if_neg c16).trans ((if_neg c19).trans ((if_pos c22).trans ((if_pos c23).trans rfl)))))))))))))))) dX8_count_212
                              · skip
                                by_cases c25 : a = 12
                                · refine lv_tableIn (off := 116) (tgt := 188) hx hb dX8_count_72 (by rw [c25]; decide) (by rw [c25]; decide) (by rw [c25]; rfl) (by decide) ?_
                                  refine lv_aload_n hx hb dX8_count_188 rfl (lv_at hl 0 rfl) ?_
                                  refine lv_iload_n hx hb dX8_count_189 rfl (lv_at hl 1 rfl) ?_
                                  refine fold_i (show a = nI (12) from (c25.trans (by decide))) ?_
                                  refine lv_bipush (v := 10) hx hb dX8_count_190 (by decide) ?_
                                  refine lv_isub hx hb dX8_count_192 ?_
                                  refine fold_i (show nI (12) - 10 = nI (12 - 10) from pk_sub (a := 12) (b := 10) (by omega)) ?_
                                  refine c_iR hw (run_V (As := [.int (nI (12 - 10))]) (rest := []) (np := 1) hf hw (kn_X8_isTable l E _  (nI (12 - 10))  ) ⟨gl_V q203 q204 q205 q5 q206, by decide +kernel⟩ ⟨rfl, rfl, Nat.le_of_ble_eq_true rfl, Nat.le_of_ble_eq_true rfl⟩ (by decide) (c_R E _) rfl rfl hl.1 rfl (Nat.le_of_ble_eq_true rfl) dX8_count_193 ⟨Nat.zero_le _, Nat.zero_le _⟩) (fun H locs hw => ?_)
                                  refine lv_if_eq (tgt := 210) hx hb dX8_count_196 (by decide) (fun c26 => ?_) (fun c26 => ?_)
                                  · replace c26 := (bz_0 _).mp c26
                                    refine lv_ldc hx hb hf.2.2.2.1 (hf.2.2.2.2 _ q242) dX8_count_210 ?_
                                    exact e_i hf hr hlocks hw rfl (congrArg (fun z => (z, μ)) ((hq).trans ((if_pos c2).trans ((if_neg c3).trans ((if_neg c5).trans ((if_neg c6).trans ((if_neg c7).trans ((if_neg c8).trans ((if_neg c9).trans ((if_neg c11).trans ((if_neg c12).trans ((if_neg c13).trans ((if_neg c16).trans ((if_neg c19).trans ((if_neg c22).trans ((if_pos c25).trans ((if_neg c26).trans rfl))))))))))))))))) dX8_count_212
                                  · replace c26 := (bz_n0 _).mp c26
                                    refine lv_aload_n hx hb dX8_count_199 rfl (lv_at hl 0 rfl) ?_
                                    refine lv_iload_n hx hb dX8_count_200 rfl (lv_at hl 1 rfl) ?_
                                    refine fold_i (show a = nI (12) from (c25.trans (by decide))) ?_
                                    refine lv_bipush (v := 10) hx hb dX8_count_201 (by decide) ?_
                                    refine lv_isub hx hb dX8_count_203 ?_
                                    refine fold_i (show nI (12) - 10 = nI (12 - 10) from pk_sub (a := 12) (b := 10) (by omega)) ?_
                                    refine c_iR hw (run_V (As := [.int (nI (12 - 10))]) (rest := []) (np := 1) hf hw (kn_X8_nodes l E _  (12 - 10)  (show 12 - 10 < 3 from (by omega))) ⟨gl_V q215 q216 q217 q5 q218, by decide +kernel⟩ ⟨rfl, rfl, Nat.le_of_ble_eq_true rfl, Nat.le_of_ble_eq_true rfl⟩ (by decide) (c_R E _) rfl rfl hl.1 rfl (Nat.le_of_ble_eq_true rfl) dX8_count_204 ⟨Nat.zero_le _, Nat.zero_le _⟩) (fun H locs hw => ?_)
                                    have hb27 := ((hI).2.2.1 (12 - 10) (by omega)).2
                                    refine fold_i (show μ.1 8 (10 + 25 * (12 - 10)) = nI ((μ.1 8 (10 + 25 * (12 - 10))).toNatClampNeg) from ((hI).2.2.1 (12 - 10) (by omega)).1) ?_
                                    refine lv_goto (tgt := 212) hx hb dX8_count_207 (by decide) ?_
                                    exact e_i hf hr hlocks hw rfl (congrArg (fun z => (z, μ)) ((hq).trans ((if_pos c2).trans ((if_neg c3).trans ((if_neg c5).trans ((if_neg c6).trans ((if_neg c7).trans ((if_neg c8).trans ((if_neg c9).trans ((if_neg c11).trans ((if_neg c12).trans ((if_neg c13).trans ((if_neg c16).trans ((if_neg c19).trans ((if_neg c22).trans ((if_pos c25).trans ((if_pos c26).trans rfl))))))))))))))))) dX8_count_212
                                · skip
                                  have hsw : a.toInt ≠ 0 ∧ a.toInt ≠ 1 ∧ a.toInt ≠ 2 ∧ a.toInt ≠ 3 ∧ a.toInt ≠ 4 ∧ a.toInt ≠ 5 ∧ a.toInt ≠ 6 ∧ a.toInt ≠ 7 ∧ a.toInt ≠ 8 ∧ a.toInt ≠ 9 ∧ a.toInt ≠ 10 ∧ a.toInt ≠ 11 ∧ a.toInt ≠ 12 := ⟨ne_toInt c3 (by decide), ne_toInt c5 (by decide), ne_toInt c6 (by decide), ne_toInt c7 (by decide), ne_toInt c8 (by decide), ne_toInt c9 (by decide), ne_toInt c11 (by decide), ne_toInt c12 (by decide), ne_toInt c13 (by decide), ne_toInt c16 (by decide), ne_toInt c19 (by decide), ne_toInt c22 (by decide), ne_toInt c25 (by decide)⟩
                                  refine lv_tableOut (tgt := 213) hx hb dX8_count_72 (by omega) (by decide) ?_
                                  refine lv_iload_n hx hb dX8_count_213 rfl (lv_at hl 1 rfl) ?_
                                  refine lv_bipush (v := 20) hx hb dX8_count_214 (by decide) ?_
                                  refine lv_bipush (v := 26) hx hb dX8_count_216 (by decide) ?_
                                  refine c_iR hw (run_S (As := [.int (a), .int 20, .int 26]) (rest := []) (np := 3) hf hw (kn_X8_in l E _  a (20 : Int32) (26 : Int32)  ) ⟨gl_S q207 q208 q5 q209, by decide +kernel⟩ ⟨rfl, rfl, Nat.le_of_ble_eq_true rfl, Nat.le_of_ble_eq_true rfl⟩ rfl hl.1 rfl (Nat.le_of_ble_eq_true rfl) dX8_count_218 ⟨Nat.zero_le _, Nat.zero_le _⟩) (fun H locs hw => ?_)
                                  refine lv_if_eq (tgt := 238) hx hb dX8_count_221 (by decide) (fun c28 => ?_) (fun c28 => ?_)
                                  · replace c28 := (bz_0 _).mp c28
                                    refine lv_ldc hx hb hf.2.2.2.1 (hf.2.2.2.2 _ q154) dX8_count_238 ?_
                                    exact e_i hf hr hlocks hw rfl (congrArg (fun z => (z, μ)) ((hq).trans ((if_pos c2).trans ((if_neg c3).trans ((if_neg c5).trans ((if_neg c6).trans ((if_neg c7).trans ((if_neg c8).trans ((if_neg c9).trans ((if_neg c11).trans ((if_neg c12).trans ((if_neg c13).trans ((if_neg c16).trans ((if_neg c19).trans ((if_neg c22).trans ((if_neg c25).trans ((if_neg c28).trans rfl))))))))))))))))) dX8_count_240
                                  · replace c28 := (bz_n0 _).mp c28
                                    refine lv_aload_n hx hb dX8_count_224 rfl (lv_at hl 0 rfl) ?_
                                    refine g_f hw hf (by decide) (c_R E _) rfl inlX8 0 (by decide) rfl q90 rfl dX8_count_225 ?_
                                    refine lv_iconst (v := 2) hx hb dX8_count_228 (by decide) ?_
                                    refine lv_iload_n hx hb dX8_count_229 rfl (lv_at hl 1 rfl) ?_
                                    have c28q := na_rng 20 26 rfl rfl (by decide) (by decide) c28
                                    have hb29 := c28q.2
                                    refine fold_i (show a = nI ((a.toNatClampNeg)) from c28q.1) ?_
                                    refine lv_iadd hx hb dX8_count_230 ?_
                                    refine fold_i (show (2 : Int32) + nI ((a.toNatClampNeg)) = nI (2 + (a.toNatClampNeg)) from nI_add (2) ((a.toNatClampNeg))) ?_
                                    refine lv_bipush (v := 20) hx hb dX8_count_231 (by decide) ?_
                                    refine lv_isub hx hb dX8_count_233 ?_
                                    refine fold_i (show nI (2 + (a.toNatClampNeg)) - 20 = nI (2 + (a.toNatClampNeg) - 20) from pk_sub (a := 2 + (a.toNatClampNeg)) (b := 20) (by omega)) ?_
                                    refine g_a hw hf (by decide) (c_Rs E _) (vp_in_nI (show 2 + (a.toNatClampNeg) - 20 < 259 from (by omega)) (by decide)) (tr_at (y := 2 + (a.toNatClampNeg) - 20) (by omega) (nI_clamp (Nat.lt_trans (show 2 + (a.toNatClampNeg) - 20 < 259 from (by omega)) (by decide)))) dX8_count_234 ?_
                                    refine lv_goto (tgt := 240) hx hb dX8_count_235 (by decide) ?_
                                    exact e_i hf hr hlocks hw rfl (congrArg (fun z => (z, μ)) ((hq).trans ((if_pos c2).trans ((if_neg c3).trans ((if_neg c5).trans ((if_neg c6).trans ((if_neg c7).trans ((if_neg c8).trans ((if_neg c9).trans ((if_neg c11).trans ((if_neg c12).trans ((if_neg c13).trans ((if_neg c16).trans ((if_neg c19).trans ((if_neg c22).trans ((if_neg c25).trans ((if_pos c28).trans rfl))))))))))))))))) dX8_count_240
      · have c2n : ¬ ((μ.1 8 1).toNatClampNeg) ≤ k := by have q := (nI_leI (a := ((μ.1 8 1).toNatClampNeg)) (b := k) (by omega) (by omega)); first | exact q.mp c2 | exact fun z => c2 (q.mpr z)
        refine lv_iload_n hx hb dX8_count_21 rfl (lv_at hl 2 rfl) ?_
        refine lv_aload_n hx hb dX8_count_22 rfl (lv_at hl 0 rfl) ?_
        refine lv_iload hx hb dX8_count_23 (lv_at hl 5 rfl) ?_
        refine lv_bipush (v := 13) hx hb dX8_count_25 (by decide) ?_
        refine c_iR hw (run_V (As := [.int (nI k), .int 13]) (rest := [.int (u)]) (np := 2) hf hw (kn_X8_of l E _  k 13  (show k < 6 from (by omega)) (show 13 < 29 from (by decide))) ⟨gl_V q227 q228 q229 q5 q230, by decide +kernel⟩ ⟨rfl, rfl, Nat.le_of_ble_eq_true rfl, Nat.le_of_ble_eq_true rfl⟩ (by decide) (c_R E _) rfl rfl hl.1 rfl (Nat.le_of_ble_eq_true rfl) dX8_count_27 ⟨Nat.zero_le _, Nat.zero_le _⟩) (fun H locs hw => ?_)
        refine lv_iconst (v := (-1)) hx hb dX8_count_30 (by decide) ?_
        refine lv_icmp_ne (tgt := 38) hx hb dX8_count_31 (by decide) (fun c30 => ?_) (fun c30 => ?_)
        · refine lv_iconst (v := 1) hx hb dX8_count_38 (by decide) ?_
          refine lv_iadd hx hb dX8_count_39 ?_
          refine lv_istore_n (lv' := [(2, .int (u + 1)), (0, .ref (E.1 (232))), (1, .int (a)), (3, .int (v)), (4, .int (w)), (5, .int (nI k))]) hx hb dX8_count_40 rfl hl (by decide) rfl (fun ls hl => ?_)
          refine lv_iload_n hx hb dX8_count_41 rfl (lv_at hl 3 rfl) ?_
          refine lv_aload_n hx hb dX8_count_42 rfl (lv_at hl 1 rfl) ?_
          refine lv_iload hx hb dX8_count_43 (lv_at hl 5 rfl) ?_
          refine lv_bipush (v := 17) hx hb dX8_count_45 (by decide) ?_
          refine c_iR hw (run_V (As := [.int (nI k), .int 17]) (rest := [.int (v)]) (np := 2) hf hw (kn_X8_of l E _  k 17  (show k < 6 from (by omega)) (show 17 < 29 from (by decide))) ⟨gl_V q227 q228 q229 q5 q230, by decide +kernel⟩ ⟨rfl, rfl, Nat.le_of_ble_eq_true rfl, Nat.le_of_ble_eq_true rfl⟩ (by decide) (c_R E _) rfl rfl hl.1 rfl (Nat.le_of_ble_eq_true rfl) dX8_count_47 ⟨Nat.zero_le _, Nat.zero_le _⟩) (fun H locs hw => ?_)
          refine lv_iadd hx hb dX8_count_50 ?_
          refine lv_istore_n (lv' := [(3, .int (v + (μ.1 8 (85 + 29 * k + 17)))), (2, .int (u + 1)), (0, .ref (E.1 (232))), (1, .int (a)), (4, .int (w)), (5, .int (nI k))]) hx hb dX8_count_51 rfl hl (by decide) rfl (fun ls hl => ?_)
          refine lv_iload hx hb dX8_count_52 (lv_at hl 4 rfl) ?_
          refine lv_aload_n hx hb dX8_count_54 rfl (lv_at hl 2 rfl) ?_
          refine lv_iload hx hb dX8_count_55 (lv_at hl 5 rfl) ?_
          refine lv_bipush (v := 18) hx hb dX8_count_57 (by decide) ?_
          refine c_iR hw (run_V (As := [.int (nI k), .int 18]) (rest := [.int (w)]) (np := 2) hf hw (kn_X8_of l E _  k 18  (show k < 6 from (by omega)) (show 18 < 29 from (by decide))) ⟨gl_V q227 q228 q229 q5 q230, by decide +kernel⟩ ⟨rfl, rfl, Nat.le_of_ble_eq_true rfl, Nat.le_of_ble_eq_true rfl⟩ (by decide) (c_R E _) rfl rfl hl.1 rfl (Nat.le_of_ble_eq_true rfl) dX8_count_59 ⟨Nat.zero_le _, Nat.zero_le _⟩) (fun H locs hw => ?_)
          refine lv_iadd hx hb dX8_count_62 ?_
          refine lv_istore (lv' := [(4, .int (w + (μ.1 8 (85 + 29 * k + 18)))), (3, .int (v + (μ.1 8 (85 + 29 * k + 17)))), (2, .int (u + 1)), (0, .ref (E.1 (232))), (1, .int (a)), (5, .int (nI k))]) hx hb dX8_count_63 hl (by decide) rfl (fun ls hl => ?_)
          refine lv_iinc (v := nI (k + 1)) (lv' := [(5, .int (nI (k + 1))), (4, .int (w + (μ.1 8 (85 + 29 * k + 18)))), (3, .int (v + (μ.1 8 (85 + 29 * k + 17)))), (2, .int (u + 1)), (0, .ref (E.1 (232))), (1, .int (a))]) hx hb dX8_count_65 hl (k := 5) rfl (nI_1 _) (by decide) rfl (fun ls hl => ?_)
          refine lv_goto (tgt := 10) hx hb dX8_count_68 (by decide) ?_
          exact ih (u + 1) (v + (μ.1 8 (85 + 29 * k + 17))) (w + (μ.1 8 (85 + 29 * k + 18))) (k + 1) (by omega) (by omega) (((hq).trans ((if_neg c2).trans ((if_neg c30).trans rfl)))) _ _ _ (lv_sub hl [4, 5, 3, 2, 1, 0] rfl) hw
        · refine lv_iconst (v := 0) hx hb dX8_count_34 (by decide) ?_
          refine lv_goto (tgt := 39) hx hb dX8_count_35 (by decide) ?_
          refine lv_iadd hx hb dX8_count_39 ?_
          refine lv_istore_n (lv' := [(2, .int (u + 0)), (0, .ref (E.1 (232))), (1, .int (a)), (3, .int (v)), (4, .int (w)), (5, .int (nI k))]) hx hb dX8_count_40 rfl hl (by decide) rfl (fun ls hl => ?_)
          refine lv_iload_n hx hb dX8_count_41 rfl (lv_at hl 3 rfl) ?_
          refine lv_aload_n hx hb dX8_count_42 rfl (lv_at hl 1 rfl) ?_
          refine lv_iload hx hb dX8_count_43 (lv_at hl 5 rfl) ?_
          refine lv_bipush (v := 17) hx hb dX8_count_45 (by decide) ?_
          refine c_iR hw (run_V (As := [.int (nI k), .int 17]) (rest := [.int (v)]) (np := 2) hf hw (kn_X8_of l E _  k 17  (show k < 6 from (by omega)) (show 17 < 29 from (by decide))) ⟨gl_V q227 q228 q229 q5 q230, by decide +kernel⟩ ⟨rfl, rfl, Nat.le_of_ble_eq_true rfl, Nat.le_of_ble_eq_true rfl⟩ (by decide) (c_R E _) rfl rfl hl.1 rfl (Nat.le_of_ble_eq_true rfl) dX8_count_47 ⟨Nat.zero_le _, Nat.zero_le _⟩) (fun H locs hw => ?_)
          refine lv_iadd hx hb dX8_count_50 ?_
          refine lv_istore_n (lv' := [(3, .int (v + (μ.1 8 (85 + 29 * k + 17)))), (2, .int (u + 0)), (0, .ref (E.1 (232))), (1, .int (a)), (4, .int (w)), (5, .int (nI k))]) hx hb dX8_count_51 rfl hl (by decide) rfl (fun ls hl => ?_)
          refine lv_iload hx hb dX8_count_52 (lv_at hl 4 rfl) ?_
          refine lv_aload_n hx hb dX8_count_54 rfl (lv_at hl 2 rfl) ?_
          refine lv_iload hx hb dX8_count_55 (lv_at hl 5 rfl) ?_
          refine lv_bipush (v := 18) hx hb dX8_count_57 (by decide) ?_
          refine c_iR hw (run_V (As := [.int (nI k), .int 18]) (rest := [.int (w)]) (np := 2) hf hw (kn_X8_of l E _  k 18  (show k < 6 from (by omega)) (show 18 < 29 from (by decide))) ⟨gl_V q227 q228 q229 q5 q230, by decide +kernel⟩ ⟨rfl, rfl, Nat.le_of_ble_eq_true rfl, Nat.le_of_ble_eq_true rfl⟩ (by decide) (c_R E _) rfl rfl hl.1 rfl (Nat.le_of_ble_eq_true rfl) dX8_count_59 ⟨Nat.zero_le _, Nat.zero_le _⟩) (fun H locs hw => ?_)
          refine lv_iadd hx hb dX8_count_62 ?_
          refine lv_istore (lv' := [(4, .int (w + (μ.1 8 (85 + 29 * k + 18)))), (3, .int (v + (μ.1 8 (85 + 29 * k + 17)))), (2, .int (u + 0)), (0, .ref (E.1 (232))), (1, .int (a)), (5, .int (nI k))]) hx hb dX8_count_63 hl (by decide) rfl (fun ls hl => ?_)
          refine lv_iinc (v := nI (k + 1)) (lv' := [(5, .int (nI (k + 1))), (4, .int (w + (μ.1 8 (85 + 29 * k + 18)))), (3, .int (v + (μ.1 8 (85 + 29 * k + 17)))), (2, .int (u + 0)), (0, .ref (E.1 (232))), (1, .int (a))]) hx hb dX8_count_65 hl (k := 5) rfl (nI_1 _) (by decide) rfl (fun ls hl => ?_)
          refine lv_goto (tgt := 10) hx hb dX8_count_68 (by decide) ?_
          exact ih (u + 0) (v + (μ.1 8 (85 + 29 * k + 17))) (w + (μ.1 8 (85 + 29 * k + 18))) (k + 1) (by omega) (by omega) (((hq).trans ((if_neg c2).trans ((if_pos c30).trans rfl)))) _ _ _ (lv_sub hl [4, 5, 3, 2, 1, 0] rfl) hw
  exact key_10 8 (0 : Int32) (0 : Int32) (0 : Int32) 0 (by omega) (by omega) (rfl) _ _ _ (lv_sub hl [4, 5, 3, 2, 1, 0] rfl) hw
def lp_X8_node_76 (μ : Mu)  (a : Int32) (b : Int32) (d : Int32) : Nat → Int32 → Nat → Int32 × Mu
  | 0, _, _ => (0, μ)
  | f + 1, u, k =>
    if (nI ((μ.1 8 1).toNatClampNeg) : Int32) ≤ nI k then
      if (u : Int32) = 0 then
        if (u : Int32) = 0 then
          ((-2000000002), μ)
        else
          ((-2000000003), μ)
      else
        if (nI ((μ.1 8 (10 + 25 * a.toNatClampNeg)).toNatClampNeg) : Int32) = 12 then
          if (u : Int32) = 0 then
            ((-2000000002), μ)
          else
            ((-2000000003), μ)
        else
          ((sp_X8_acted (pM (pM (pM (pC μ 11 0 8 0 259) 8 (10 + 25 * a.toNatClampNeg + 1 + ((μ.1 8 (10 + 25 * a.toNatClampNeg)).toNatClampNeg)) b) 8 (10 + 25 * a.toNatClampNeg + 13 + ((μ.1 8 (10 + 25 * a.toNatClampNeg)).toNatClampNeg)) d) 8 (10 + 25 * a.toNatClampNeg) (((pM (pM (pC μ 11 0 8 0 259) 8 (10 + 25 * a.toNatClampNeg + 1 + ((μ.1 8 (10 + 25 * a.toNatClampNeg)).toNatClampNeg)) b) 8 (10 + 25 * a.toNatClampNeg + 13 + ((μ.1 8 (10 + 25 * a.toNatClampNeg)).toNatClampNeg)) d).1 8 (10 + 25 * a.toNatClampNeg)) + 1))  (nI ((μ.1 8 (10 + 25 * a.toNatClampNeg)).toNatClampNeg + 1))).1, (sp_X8_acted (pM (pM (pM (pC μ 11 0 8 0 259) 8 (10 + 25 * a.toNatClampNeg + 1 + ((μ.1 8 (10 + 25 * a.toNatClampNeg)).toNatClampNeg)) b) 8 (10 + 25 * a.toNatClampNeg + 13 + ((μ.1 8 (10 + 25 * a.toNatClampNeg)).toNatClampNeg)) d) 8 (10 + 25 * a.toNatClampNeg) (((pM (pM (pC μ 11 0 8 0 259) 8 (10 + 25 * a.toNatClampNeg + 1 + ((μ.1 8 (10 + 25 * a.toNatClampNeg)).toNatClampNeg)) b) 8 (10 + 25 * a.toNatClampNeg + 13 + ((μ.1 8 (10 + 25 * a.toNatClampNeg)).toNatClampNeg)) d).1 8 (10 + 25 * a.toNatClampNeg)) + 1))  (nI ((μ.1 8 (10 + 25 * a.toNatClampNeg)).toNatClampNeg + 1))).2)
    else
      if (u : Int32) = 0 then
        lp_X8_node_76 μ a b d f (0 : Int32) (k + 1)
      else
        if (nI ((μ.1 8 (85 + 29 * k + 0)).toNatClampNeg) : Int32) = nI (a.toNatClampNeg) then
          lp_X8_node_76 μ a b d f (0 : Int32) (k + 1)
        else
          lp_X8_node_76 μ a b d f (1 : Int32) (k + 1)
def sp_X8_node (μ : Mu)  (a : Int32) (b : Int32) (d : Int32) : Int32 × Mu :=
  if 0 ≤ a ∧ a ≤ (μ.1 8 0) - 1 then
    if (-200000) ≤ b ∧ b ≤ 850000 then
      if (1 : Int32) ≤ d ∧ d ≤ (10000000 : Int32) then
        if (nI ((μ.1 8 (10 + 25 * a.toNatClampNeg)).toNatClampNeg) : Int32) = 0 then
          lp_X8_node_76 μ a b d 8 (1 : Int32) 0
        else
          if (b : Int32) ≤ (μ.1 8 (11 + 25 * a.toNatClampNeg + ((μ.1 8 (10 + 25 * a.toNatClampNeg)).toNatClampNeg - 1))) then
            lp_X8_node_76 μ a b d 8 (0 : Int32) 0
          else
            if (d : Int32) ≤ (μ.1 8 (23 + 25 * a.toNatClampNeg + ((μ.1 8 (10 + 25 * a.toNatClampNeg)).toNatClampNeg - 1))) then
              lp_X8_node_76 μ a b d 8 (0 : Int32) 0
            else
              lp_X8_node_76 μ a b d 8 (1 : Int32) 0
      else
        ((-2000000001), μ)
    else
      ((-2000000001), μ)
  else
    ((-2000000001), μ)
set_option maxHeartbeats 4000000 in
set_option maxRecDepth 100000 in
theorem k_X8_node (l : Launch) (E : En) (μ : Mu)  (a : Int32) (b : Int32) (d : Int32) (hI : RI (μ.1 8)) (hst : ni 5 (μ.1 7 0)) : MtI l yX8_node cX8_node 7 .int ({ frames := 2, cells := 0, slots := 0, locals := 43 }) [.ref (E.1 (232)), .int (a), .int (b), .int (d)] E μ (sp_X8_node μ a b d) := by
  refine mt_of (by decide +kernel) (Nat.le_of_ble_eq_true rfl) ?_
  intro p e s m args below meth c ls hf hr hlocks hl hw
  have hx := hf.1
  have hb := hf.2.1
  have hl : lv_has ls 7 [(0, .ref (E.1 (232))), (1, .int (a)), (2, .int (b)), (3, .int (d))] := hl
  have hb0 := hI.2.1.2
  refine lv_aload_n hx hb dX8_node_0 rfl (lv_at hl 0 rfl) ?_
  refine lv_iload_n hx hb dX8_node_1 rfl (lv_at hl 1 rfl) ?_
  refine c_iR hw (run_V (As := [.int (a)]) (rest := []) (np := 1) hf hw (kn_X8_isTable l E _  a  ) ⟨gl_V q203 q204 q205 q5 q206, by decide +kernel⟩ ⟨rfl, rfl, Nat.le_of_ble_eq_true rfl, Nat.le_of_ble_eq_true rfl⟩ (by decide) (c_R E _) rfl rfl hl.1 rfl (Nat.le_of_ble_eq_true rfl) dX8_node_2 ⟨Nat.zero_le _, Nat.zero_le _⟩) (fun H locs hw => ?_)
  refine lv_if_eq (tgt := 25) hx hb dX8_node_5 (by decide) (fun c1 => ?_) (fun c1 => ?_)
  · replace c1 := (bz_0 _).mp c1
    refine lv_ldc hx hb hf.2.2.2.1 (hf.2.2.2.2 _ q154) dX8_node_25 ?_
    exact e_i hf hr hlocks hw rfl ((if_neg c1).trans rfl) dX8_node_27
  · replace c1 := (bz_n0 _).mp c1
    have c1a := (ni_of hI.1 (by decide) c1)
    have c1ab : a.toNatClampNeg < 3 := Nat.lt_of_lt_of_le c1a.2 (Nat.le_of_lt_succ hI.1.2)
    refine lv_iload_n hx hb dX8_node_8 rfl (lv_at hl 2 rfl) ?_
    refine c_iR hw (run_S (As := [.int (b)]) (rest := []) (np := 1) hf hw (kn_X8_isDegree l E _  b  ) ⟨gl_S q210 q211 q5 q212, by decide +kernel⟩ ⟨rfl, rfl, Nat.le_of_ble_eq_true rfl, Nat.le_of_ble_eq_true rfl⟩ rfl hl.1 rfl (Nat.le_of_ble_eq_true rfl) dX8_node_9 ⟨Nat.zero_le _, Nat.zero_le _⟩) (fun H locs hw => ?_)
    refine lv_if_eq (tgt := 25) hx hb dX8_node_12 (by decide) (fun c2 => ?_) (fun c2 => ?_)
    · replace c2 := (bz_0 _).mp c2
      refine lv_ldc hx hb hf.2.2.2.1 (hf.2.2.2.2 _ q154) dX8_node_25 ?_
      exact e_i hf hr hlocks hw rfl ((if_pos c1).trans ((if_neg c2).trans rfl)) dX8_node_27
    · replace c2 := (bz_n0 _).mp c2
      refine lv_iload_n hx hb dX8_node_15 rfl (lv_at hl 3 rfl) ?_
      refine lv_iconst (v := 1) hx hb dX8_node_16 (by decide) ?_
      refine lv_ldc hx hb hf.2.2.2.1 (hf.2.2.2.2 _ q201) dX8_node_17 ?_
      refine c_iR hw (run_S (As := [.int (d), .int 1, .int 10000000]) (rest := []) (np := 3) hf hw (kn_X8_in l E _  d (1 : Int32) (10000000 : Int32)  ) ⟨gl_S q207 q208 q5 q209, by decide +kernel⟩ ⟨rfl, rfl, Nat.le_of_ble_eq_true rfl, Nat.le_of_ble_eq_true rfl⟩ rfl hl.1 rfl (Nat.le_of_ble_eq_true rfl) dX8_node_19 ⟨Nat.zero_le _, Nat.zero_le _⟩) (fun H locs hw => ?_)
      refine lv_if_ne (tgt := 28) hx hb dX8_node_22 (by decide) (fun c3 => ?_) (fun c3 => ?_)
      · replace c3 := (bz_n0 _).mp c3
        refine lv_aload_n hx hb dX8_node_28 rfl (lv_at hl 0 rfl) ?_
        refine lv_iload_n hx hb dX8_node_29 rfl (lv_at hl 1 rfl) ?_
        refine fold_i (show a = nI (a.toNatClampNeg) from c1a.1) ?_
        refine c_iR hw (run_V (As := [.int (nI (a.toNatClampNeg))]) (rest := []) (np := 1) hf hw (kn_X8_nodes l E _  a.toNatClampNeg  (show a.toNatClampNeg < 3 from c1ab)) ⟨gl_V q215 q216 q217 q5 q218, by decide +kernel⟩ ⟨rfl, rfl, Nat.le_of_ble_eq_true rfl, Nat.le_of_ble_eq_true rfl⟩ (by decide) (c_R E _) rfl rfl hl.1 rfl (Nat.le_of_ble_eq_true rfl) dX8_node_30 ⟨Nat.zero_le _, Nat.zero_le _⟩) (fun H locs hw => ?_)
        have hb4 := ((hI).2.2.1 _ c1ab).2
        refine fold_i (show μ.1 8 (10 + 25 * a.toNatClampNeg) = nI ((μ.1 8 (10 + 25 * a.toNatClampNeg)).toNatClampNeg) from ((hI).2.2.1 _ c1ab).1) ?_
        refine lv_istore (lv' := [(4, .int (nI ((μ.1 8 (10 + 25 * a.toNatClampNeg)).toNatClampNeg))), (0, .ref (E.1 (232))), (1, .int (a)), (2, .int (b)), (3, .int (d))]) hx hb dX8_node_33 hl (by decide) rfl (fun ls hl => ?_)
        refine lv_iload hx hb dX8_node_35 (lv_at hl 0 rfl) ?_
        refine lv_if_eq (tgt := 66) hx hb dX8_node_37 (by decide) (fun c5 => ?_) (fun c5 => ?_)
        · have c5n : ((μ.1 8 (10 + 25 * a.toNatClampNeg)).toNatClampNeg) = 0 := by have q := (nI_eq (a := ((μ.1 8 (10 + 25 * a.toNatClampNeg)).toNatClampNeg)) (b := 0) (by omega) (by omega)); first | exact q.mp c5 | exact fun z => c5 (q.mpr z)
          refine lv_iconst (v := 1) hx hb dX8_node_66 (by decide) ?_
          refine lv_goto (tgt := 71) hx hb dX8_node_67 (by decide) ?_
          refine lv_istore (lv' := [(5, .int 1), (4, .int (nI ((μ.1 8 (10 + 25 * a.toNatClampNeg)).toNatClampNeg))), (0, .ref (E.1 (232))), (1, .int (a)), (2, .int (b)), (3, .int (d))]) hx hb dX8_node_71 hl (by decide) rfl (fun ls hl => ?_)
          refine lv_iconst (v := 0) hx hb dX8_node_73 (by decide) ?_
          refine lv_istore (lv' := [(6, .int 0), (5, .int 1), (4, .int (nI ((μ.1 8 (10 + 25 * a.toNatClampNeg)).toNatClampNeg))), (0, .ref (E.1 (232))), (1, .int (a)), (2, .int (b)), (3, .int (d))]) hx hb dX8_node_74 hl (by decide) rfl (fun ls hl => ?_)
          have key_76 : ∀ (f : Nat) (u : Int32) (k : Nat), k + f = 8 → k ≤ 7 → sp_X8_node μ a b d = lp_X8_node_76 μ a b d f u k → ∀ (ls : Array Slot) (H : Heap) (locs : List Loc), lv_has ls 7 [(0, .ref (E.1 (232))), (1, .int (a)), (2, .int (b)), (3, .int (d)), (4, .int (nI ((μ.1 8 (10 + 25 * a.toNatClampNeg)).toNatClampNeg))), (5, .int (u)), (6, .int (nI k))] → Wk E μ s H locs → W p l e ({ frames := 2, cells := 0, slots := 0, locals := 43 }) s m args below meth c H locs 0 0 (MQ below (va_Qi (fun r u => r = ((sp_X8_node μ a b d)).1 ∧ u = ((sp_X8_node μ a b d)).2) (fun u t => WdU E u t) (inE E)) args s 0 0 (inE E)) (F0 m 76 ls []) := by
            intro f
            induction f with
            | zero => intro u k h1 h2 hq ls H locs hl hw; exfalso; omega
            | succ f ih =>
              intro u k h1 h2 hq ls H locs hl hw
              refine lv_iload hx hb dX8_node_76 (lv_at hl 6 rfl) ?_
              refine lv_aload_n hx hb dX8_node_78 rfl (lv_at hl 0 rfl) ?_
              refine g_f hw hf (by decide) (c_R E _) rfl inlX8 0 (by decide) rfl q90 rfl dX8_node_79 ?_
              refine lv_iconst (v := 1) hx hb dX8_node_82 (by decide) ?_
              refine g_a hw hf (by decide) (c_Rs E _) (vp_lit 1 259 (by decide) (by decide)) (tr_at (y := 1) (by decide) (by decide)) dX8_node_83 ?_
              have hb6 := (hI).2.1.2
              refine fold_i (show μ.1 8 1 = nI ((μ.1 8 1).toNatClampNeg) from (hI).2.1.1) ?_
              refine lv_icmp_ge (tgt := 116) hx hb dX8_node_84 (by decide) (fun c7 => ?_) (fun c7 => ?_)
              · have c7n : ((μ.1 8 1).toNatClampNeg) ≤ k := by have q := (nI_leI (a := ((μ.1 8 1).toNatClampNeg)) (b := k) (by omega) (by omega)); first | exact q.mp c7 | exact fun z => c7 (q.mpr z)
                refine lv_iload hx hb dX8_node_116 (lv_at hl 5 rfl) ?_
                refine lv_if_eq (tgt := 128) hx hb dX8_node_118 (by decide) (fun c8 => ?_) (fun c8 => ?_)
                · refine lv_iload hx hb dX8_node_128 (lv_at hl 5 rfl) ?_
                  refine lv_if_eq (tgt := 138) hx hb dX8_node_130 (by decide) (fun c9 => ?_) (fun c9 => ?_)
                  · refine lv_ldc hx hb hf.2.2.2.1 (hf.2.2.2.2 _ q202) dX8_node_138 ?_
                    exact e_i hf hr hlocks hw rfl ((hq).trans ((if_pos c7).trans ((if_pos c8).trans ((if_pos c9).trans rfl)))) dX8_node_140
                  · refine lv_ldc hx hb hf.2.2.2.1 (hf.2.2.2.2 _ q145) dX8_node_133 ?_
                    refine lv_goto (tgt := 140) hx hb dX8_node_135 (by decide) ?_
                    exact e_i hf hr hlocks hw rfl ((hq).trans ((if_pos c7).trans ((if_pos c8).trans ((if_neg c9).trans rfl)))) dX8_node_140
                · refine lv_iload hx hb dX8_node_121 (lv_at hl 4 rfl) ?_
                  refine lv_bipush (v := 12) hx hb dX8_node_123 (by decide) ?_
                  refine lv_icmp_ne (tgt := 141) hx hb dX8_node_125 (by decide) (fun c10 => ?_) (fun c10 => ?_)
                  · have c10n : ¬ ((μ.1 8 (10 + 25 * a.toNatClampNeg)).toNatClampNeg) = 12 := by have q := (nI_eq (a := ((μ.1 8 (10 + 25 * a.toNatClampNeg)).toNatClampNeg)) (b := 12) (by omega) (by omega)); first | exact q.mp c10 | exact fun z => c10 (q.mpr z)
                    refine lv_aload_n hx hb dX8_node_141 rfl (lv_at hl 0 rfl) ?_
                    refine c_v hw (run_V (As := []) (rest := []) (np := 0) hf hw (kn_X8_keeps l E _    ) ⟨gl_V q146 q147 q148 q5 q149, by decide +kernel⟩ ⟨rfl, rfl, Nat.le_of_ble_eq_true rfl, Nat.le_of_ble_eq_true rfl⟩ (by decide) (c_R E _) rfl rfl hl.1 rfl (Nat.le_of_ble_eq_true rfl) dX8_node_142 ⟨Nat.zero_le _, Nat.zero_le _⟩) (fun H locs hw => ?_)
                    refine lv_aload_n hx hb dX8_node_145 rfl (lv_at hl 0 rfl) ?_
                    refine g_f hw hf (by decide) (c_R E _) rfl inlX8 0 (by decide) rfl q90 rfl dX8_node_146 ?_
                    refine lv_bipush (v := 10) hx hb dX8_node_149 (by decide) ?_
                    refine lv_bipush (v := 25) hx hb dX8_node_151 (by decide) ?_
                    refine lv_iload_n hx hb dX8_node_153 rfl (lv_at hl 1 rfl) ?_
                    refine fold_i (show a = nI (a.toNatClampNeg) from c1a.1) ?_
                    refine lv_imul hx hb dX8_node_154 ?_
                    refine fold_i (show (25 : Int32) * nI (a.toNatClampNeg) = nI (25 * a.toNatClampNeg) from pk_mul (25) (a.toNatClampNeg)) ?_
                    refine lv_iadd hx hb dX8_node_155 ?_
                    refine fold_i (show (10 : Int32) + nI (25 * a.toNatClampNeg) = nI (10 + 25 * a.toNatClampNeg) from nI_add (10) (25 * a.toNatClampNeg)) ?_
                    refine lv_iconst (v := 1) hx hb dX8_node_156 (by decide) ?_
                    refine lv_iadd hx hb dX8_node_157 ?_
                    refine fold_i (show nI (10 + 25 * a.toNatClampNeg) + (1 : Int32) = nI (10 + 25 * a.toNatClampNeg + 1) from nI_add (10 + 25 * a.toNatClampNeg) (1)) ?_
                    refine lv_iload hx hb dX8_node_158 (lv_at hl 4 rfl) ?_
                    refine lv_iadd hx hb dX8_node_160 ?_
                    refine fold_i (show nI (10 + 25 * a.toNatClampNeg + 1) + nI ((μ.1 8 (10 + 25 * a.toNatClampNeg)).toNatClampNeg) = nI (10 + 25 * a.toNatClampNeg + 1 + ((μ.1 8 (10 + 25 * a.toNatClampNeg)).toNatClampNeg)) from nI_add (10 + 25 * a.toNatClampNeg + 1) ((μ.1 8 (10 + 25 * a.toNatClampNeg)).toNatClampNeg)) ?_
                    refine lv_iload_n hx hb dX8_node_161 rfl (lv_at hl 2 rfl) ?_
                    refine p_a hw hf (by decide) (c_Rs E _) (vp_in_nI (show 10 + 25 * a.toNatClampNeg + 1 + ((μ.1 8 (10 + 25 * a.toNatClampNeg)).toNatClampNeg) < 259 from (by omega)) (by decide)) (by rw [show (nI (10 + 25 * a.toNatClampNeg + 1 + ((μ.1 8 (10 + 25 * a.toNatClampNeg)).toNatClampNeg))).toNatClampNeg = 10 + 25 * a.toNatClampNeg + 1 + ((μ.1 8 (10 + 25 * a.toNatClampNeg)).toNatClampNeg) from (nI_clamp (Nat.lt_trans (show 10 + 25 * a.toNatClampNeg + 1 + ((μ.1 8 (10 + 25 * a.toNatClampNeg)).toNatClampNeg) < 259 from (by omega)) (by decide)))]; exact (s_Rs E _ (by omega) _)) dX8_node_162 (fun H locs hw => ?_)
                    refine lv_aload_n hx hb dX8_node_163 rfl (lv_at hl 0 rfl) ?_
                    refine g_f hw hf (by decide) (c_R E _) rfl inlX8 0 (by decide) rfl q90 rfl dX8_node_164 ?_
                    refine lv_bipush (v := 10) hx hb dX8_node_167 (by decide) ?_
                    refine lv_bipush (v := 25) hx hb dX8_node_169 (by decide) ?_
                    refine lv_iload_n hx hb dX8_node_171 rfl (lv_at hl 1 rfl) ?_
                    refine fold_i (show a = nI (a.toNatClampNeg) from c1a.1) ?_
                    refine lv_imul hx hb dX8_node_172 ?_
                    refine fold_i (show (25 : Int32) * nI (a.toNatClampNeg) = nI (25 * a.toNatClampNeg) from pk_mul (25) (a.toNatClampNeg)) ?_
                    refine lv_iadd hx hb dX8_node_173 ?_
                    refine fold_i (show (10 : Int32) + nI (25 * a.toNatClampNeg) = nI (10 + 25 * a.toNatClampNeg) from nI_add (10) (25 * a.toNatClampNeg)) ?_
                    refine lv_bipush (v := 13) hx hb dX8_node_174 (by decide) ?_
                    refine lv_iadd hx hb dX8_node_176 ?_
                    refine fold_i (show nI (10 + 25 * a.toNatClampNeg) + (13 : Int32) = nI (10 + 25 * a.toNatClampNeg + 13) from nI_add (10 + 25 * a.toNatClampNeg) (13)) ?_
                    refine lv_iload hx hb dX8_node_177 (lv_at hl 4 rfl) ?_
                    refine lv_iadd hx hb dX8_node_179 ?_
                    refine fold_i (show nI (10 + 25 * a.toNatClampNeg + 13) + nI ((μ.1 8 (10 + 25 * a.toNatClampNeg)).toNatClampNeg) = nI (10 + 25 * a.toNatClampNeg + 13 + ((μ.1 8 (10 + 25 * a.toNatClampNeg)).toNatClampNeg)) from nI_add (10 + 25 * a.toNatClampNeg + 13) ((μ.1 8 (10 + 25 * a.toNatClampNeg)).toNatClampNeg)) ?_
                    refine lv_iload_n hx hb dX8_node_180 rfl (lv_at hl 3 rfl) ?_
                    refine p_a hw hf (by decide) (c_Rs E _) (vp_in_nI (show 10 + 25 * a.toNatClampNeg + 13 + ((μ.1 8 (10 + 25 * a.toNatClampNeg)).toNatClampNeg) < 259 from (by omega)) (by decide)) (by rw [show (nI (10 + 25 * a.toNatClampNeg + 13 + ((μ.1 8 (10 + 25 * a.toNatClampNeg)).toNatClampNeg))).toNatClampNeg = 10 + 25 * a.toNatClampNeg + 13 + ((μ.1 8 (10 + 25 * a.toNatClampNeg)).toNatClampNeg) from (nI_clamp (Nat.lt_trans (show 10 + 25 * a.toNatClampNeg + 13 + ((μ.1 8 (10 + 25 * a.toNatClampNeg)).toNatClampNeg) < 259 from (by omega)) (by decide)))]; exact (s_Rs E _ (by omega) _)) dX8_node_181 (fun H locs hw => ?_)
                    refine lv_aload_n hx hb dX8_node_182 rfl (lv_at hl 0 rfl) ?_
                    refine g_f hw hf (by decide) (c_R E _) rfl inlX8 0 (by decide) rfl q90 rfl dX8_node_183 ?_
                    refine lv_bipush (v := 10) hx hb dX8_node_186 (by decide) ?_
                    refine lv_bipush (v := 25) hx hb dX8_node_188 (by decide) ?_
                    refine lv_iload_n hx hb dX8_node_190 rfl (lv_at hl 1 rfl) ?_
                    refine fold_i (show a = nI (a.toNatClampNeg) from c1a.1) ?_
                    refine lv_imul hx hb dX8_node_191 ?_
                    refine fold_i (show (25 : Int32) * nI (a.toNatClampNeg) = nI (25 * a.toNatClampNeg) from pk_mul (25) (a.toNatClampNeg)) ?_
                    refine lv_iadd hx hb dX8_node_192 ?_
                    refine fold_i (show (10 : Int32) + nI (25 * a.toNatClampNeg) = nI (10 + 25 * a.toNatClampNeg) from nI_add (10) (25 * a.toNatClampNeg)) ?_
                    refine lv_dup2_11 hx hb dX8_node_193 rfl rfl ?_
                    refine g_a hw hf (by decide) (c_Rs E _) (vp_in_nI (show 10 + 25 * a.toNatClampNeg < 259 from (by omega)) (by decide)) (tr_at (y := 10 + 25 * a.toNatClampNeg) (by omega) (nI_clamp (Nat.lt_trans (show 10 + 25 * a.toNatClampNeg < 259 from (by omega)) (by decide)))) dX8_node_194 ?_
                    refine lv_iconst (v := 1) hx hb dX8_node_195 (by decide) ?_
                    refine lv_iadd hx hb dX8_node_196 ?_
                    refine p_a hw hf (by decide) (c_Rs E _) (vp_in_nI (show 10 + 25 * a.toNatClampNeg < 259 from (by omega)) (by decide)) (by rw [show (nI (10 + 25 * a.toNatClampNeg)).toNatClampNeg = 10 + 25 * a.toNatClampNeg from (nI_clamp (Nat.lt_trans (show 10 + 25 * a.toNatClampNeg < 259 from (by omega)) (by decide)))]; exact (s_Rs E _ (by omega) _)) dX8_node_197 (fun H locs hw => ?_)
                    refine lv_aload_n hx hb dX8_node_198 rfl (lv_at hl 0 rfl) ?_
                    refine lv_iload hx hb dX8_node_199 (lv_at hl 4 rfl) ?_
                    refine lv_iconst (v := 1) hx hb dX8_node_201 (by decide) ?_
                    refine lv_iadd hx hb dX8_node_202 ?_
                    refine fold_i (show nI ((μ.1 8 (10 + 25 * a.toNatClampNeg)).toNatClampNeg) + (1 : Int32) = nI ((μ.1 8 (10 + 25 * a.toNatClampNeg)).toNatClampNeg + 1) from nI_add ((μ.1 8 (10 + 25 * a.toNatClampNeg)).toNatClampNeg) (1)) ?_
                    refine c_i hw (run_V (As := [.int (nI ((μ.1 8 (10 + 25 * a.toNatClampNeg)).toNatClampNeg + 1))]) (rest := []) (np := 1) hf hw (k_X8_acted l E _  (nI ((μ.1 8 (10 + 25 * a.toNatClampNeg)).toNatClampNeg + 1))  (s7_ni (x := μ.1 7 0) (s7_pM (by decide) (s7_pM (by decide) (s7_pM (by decide) (s7_pC (by decide) (rfl : S7 (μ.1 7 0) μ))))) hst)) ⟨gl_V q150 q151 q152 q5 q153, by decide +kernel⟩ ⟨rfl, rfl, Nat.le_of_ble_eq_true rfl, Nat.le_of_ble_eq_true rfl⟩ (by decide) (c_R E _) rfl rfl hl.1 rfl (Nat.le_of_ble_eq_true rfl) dX8_node_203 ⟨Nat.zero_le _, Nat.zero_le _⟩) (fun H locs hw => ?_)
                    exact e_i hf hr hlocks hw rfl ((hq).trans ((if_pos c7).trans ((if_neg c8).trans ((if_neg c10).trans rfl)))) dX8_node_206
                  · have c10n : ((μ.1 8 (10 + 25 * a.toNatClampNeg)).toNatClampNeg) = 12 := by have q := (nI_eq (a := ((μ.1 8 (10 + 25 * a.toNatClampNeg)).toNatClampNeg)) (b := 12) (by omega) (by omega)); first | exact q.mp c10 | exact fun z => c10 (q.mpr z)
                    refine lv_iload hx hb dX8_node_128 (lv_at hl 5 rfl) ?_
                    refine lv_if_eq (tgt := 138) hx hb dX8_node_130 (by decide) (fun c11 => ?_) (fun c11 => ?_)
                    · refine lv_ldc hx hb hf.2.2.2.1 (hf.2.2.2.2 _ q202) dX8_node_138 ?_
                      exact e_i hf hr hlocks hw rfl ((hq).trans ((if_pos c7).trans ((if_neg c8).trans ((if_pos c10).trans ((if_pos c11).trans rfl))))) dX8_node_140
                    · refine lv_ldc hx hb hf.2.2.2.1 (hf.2.2.2.2 _ q145) dX8_node_133 ?_
                      refine lv_goto (tgt := 140) hx hb dX8_node_135 (by decide) ?_
                      exact e_i hf hr hlocks hw rfl ((hq).trans ((if_pos c7).trans ((if_neg c8).trans ((if_pos c10).trans ((if_neg c11).trans rfl))))) dX8_node_140
              · have c7n : ¬ ((μ.1 8 1).toNatClampNeg) ≤ k := by have q := (nI_leI (a := ((μ.1 8 1).toNatClampNeg)) (b := k) (by omega) (by omega)); first | exact q.mp c7 | exact fun z => c7 (q.mpr z)
                refine lv_iload hx hb dX8_node_87 (lv_at hl 5 rfl) ?_
                refine lv_if_eq (tgt := 107) hx hb dX8_node_89 (by decide) (fun c12 => ?_) (fun c12 => ?_)
                · refine lv_iconst (v := 0) hx hb dX8_node_107 (by decide) ?_
                  refine lv_istore (lv' := [(5, .int 0), (0, .ref (E.1 (232))), (1, .int (a)), (2, .int (b)), (3, .int (d)), (4, .int (nI ((μ.1 8 (10 + 25 * a.toNatClampNeg)).toNatClampNeg))), (6, .int (nI k))]) hx hb dX8_node_108 hl (by decide) rfl (fun ls hl => ?_)
                  refine lv_iinc (v := nI (k + 1)) (lv' := [(6, .int (nI (k + 1))), (5, .int 0), (0, .ref (E.1 (232))), (1, .int (a)), (2, .int (b)), (3, .int (d)), (4, .int (nI ((μ.1 8 (10 + 25 * a.toNatClampNeg)).toNatClampNeg)))]) hx hb dX8_node_110 hl (k := 6) rfl (nI_1 _) (by decide) rfl (fun ls hl => ?_)
                  refine lv_goto (tgt := 76) hx hb dX8_node_113 (by decide) ?_
                  exact ih (0 : Int32) (k + 1) (by omega) (by omega) (((hq).trans ((if_neg c7).trans ((if_pos c12).trans rfl)))) _ _ _ (lv_sub hl [2, 3, 4, 5, 6, 1, 0] rfl) hw
                · refine lv_aload_n hx hb dX8_node_92 rfl (lv_at hl 0 rfl) ?_
                  refine lv_iload hx hb dX8_node_93 (lv_at hl 6 rfl) ?_
                  refine lv_iconst (v := 0) hx hb dX8_node_95 (by decide) ?_
                  refine c_iR hw (run_V (As := [.int (nI k), .int 0]) (rest := []) (np := 2) hf hw (kn_X8_of l E _  k 0  (show k < 6 from (by omega)) (show 0 < 29 from (by decide))) ⟨gl_V q227 q228 q229 q5 q230, by decide +kernel⟩ ⟨rfl, rfl, Nat.le_of_ble_eq_true rfl, Nat.le_of_ble_eq_true rfl⟩ (by decide) (c_R E _) rfl rfl hl.1 rfl (Nat.le_of_ble_eq_true rfl) dX8_node_96 ⟨Nat.zero_le _, Nat.zero_le _⟩) (fun H locs hw => ?_)
                  have hb13 := ((hI).2.2.2 k (by omega)).1.2
                  refine fold_i (show μ.1 8 (85 + 29 * k + 0) = nI ((μ.1 8 (85 + 29 * k + 0)).toNatClampNeg) from ((hI).2.2.2 k (by omega)).1.1) ?_
                  refine lv_iload_n hx hb dX8_node_99 rfl (lv_at hl 1 rfl) ?_
                  refine fold_i (show a = nI (a.toNatClampNeg) from c1a.1) ?_
                  refine lv_icmp_eq (tgt := 107) hx hb dX8_node_100 (by decide) (fun c14 => ?_) (fun c14 => ?_)
                  · have c14n : ((μ.1 8 (85 + 29 * k + 0)).toNatClampNeg) = (a.toNatClampNeg) := by have q := (nI_eq (a := ((μ.1 8 (85 + 29 * k + 0)).toNatClampNeg)) (b := (a.toNatClampNeg)) (by omega) (by omega)); first | exact q.mp c14 | exact fun z => c14 (q.mpr z)
                    refine lv_iconst (v := 0) hx hb dX8_node_107 (by decide) ?_
                    refine lv_istore (lv' := [(5, .int 0), (0, .ref (E.1 (232))), (1, .int (a)), (2, .int (b)), (3, .int (d)), (4, .int (nI ((μ.1 8 (10 + 25 * a.toNatClampNeg)).toNatClampNeg))), (6, .int (nI k))]) hx hb dX8_node_108 hl (by decide) rfl (fun ls hl => ?_)
                    refine lv_iinc (v := nI (k + 1)) (lv' := [(6, .int (nI (k + 1))), (5, .int 0), (0, .ref (E.1 (232))), (1, .int (a)), (2, .int (b)), (3, .int (d)), (4, .int (nI ((μ.1 8 (10 + 25 * a.toNatClampNeg)).toNatClampNeg)))]) hx hb dX8_node_110 hl (k := 6) rfl (nI_1 _) (by decide) rfl (fun ls hl => ?_)
                    refine lv_goto (tgt := 76) hx hb dX8_node_113 (by decide) ?_
                    exact ih (0 : Int32) (k + 1) (by omega) (by omega) (((hq).trans ((if_neg c7).trans ((if_neg c12).trans ((if_pos c14).trans rfl))))) _ _ _ (lv_sub hl [2, 3, 4, 5, 6, 1, 0] rfl) hw
                  · have c14n : ¬ ((μ.1 8 (85 + 29 * k + 0)).toNatClampNeg) = (a.toNatClampNeg) := by have q := (nI_eq (a := ((μ.1 8 (85 + 29 * k + 0)).toNatClampNeg)) (b := (a.toNatClampNeg)) (by omega) (by omega)); first | exact q.mp c14 | exact fun z => c14 (q.mpr z)
                    refine lv_iconst (v := 1) hx hb dX8_node_103 (by decide) ?_
                    refine lv_goto (tgt := 108) hx hb dX8_node_104 (by decide) ?_
                    refine lv_istore (lv' := [(5, .int 1), (0, .ref (E.1 (232))), (1, .int (a)), (2, .int (b)), (3, .int (d)), (4, .int (nI ((μ.1 8 (10 + 25 * a.toNatClampNeg)).toNatClampNeg))), (6, .int (nI k))]) hx hb dX8_node_108 hl (by decide) rfl (fun ls hl => ?_)
                    refine lv_iinc (v := nI (k + 1)) (lv' := [(6, .int (nI (k + 1))), (5, .int 1), (0, .ref (E.1 (232))), (1, .int (a)), (2, .int (b)), (3, .int (d)), (4, .int (nI ((μ.1 8 (10 + 25 * a.toNatClampNeg)).toNatClampNeg)))]) hx hb dX8_node_110 hl (k := 6) rfl (nI_1 _) (by decide) rfl (fun ls hl => ?_)
                    refine lv_goto (tgt := 76) hx hb dX8_node_113 (by decide) ?_
                    exact ih (1 : Int32) (k + 1) (by omega) (by omega) (((hq).trans ((if_neg c7).trans ((if_neg c12).trans ((if_neg c14).trans rfl))))) _ _ _ (lv_sub hl [2, 3, 4, 5, 6, 1, 0] rfl) hw
          exact key_76 8 (1 : Int32) 0 (by omega) (by omega) (((if_pos c1).trans ((if_pos c2).trans ((if_pos c3).trans ((if_pos c5).trans rfl))))) _ _ _ (lv_sub hl [3, 4, 5, 6, 2, 1, 0] rfl) hw
        · have c5n : ¬ ((μ.1 8 (10 + 25 * a.toNatClampNeg)).toNatClampNeg) = 0 := by have q := (nI_eq (a := ((μ.1 8 (10 + 25 * a.toNatClampNeg)).toNatClampNeg)) (b := 0) (by omega) (by omega)); first | exact q.mp c5 | exact fun z => c5 (q.mpr z)
          refine lv_iload_n hx hb dX8_node_40 rfl (lv_at hl 3 rfl) ?_
          refine lv_aload_n hx hb dX8_node_41 rfl (lv_at hl 1 rfl) ?_
          refine lv_iload_n hx hb dX8_node_42 rfl (lv_at hl 2 rfl) ?_
          refine fold_i (show a = nI (a.toNatClampNeg) from c1a.1) ?_
          refine lv_iload hx hb dX8_node_43 (lv_at hl 0 rfl) ?_
          refine lv_iconst (v := 1) hx hb dX8_node_45 (by decide) ?_
          refine lv_isub hx hb dX8_node_46 ?_
          refine fold_i (show nI ((μ.1 8 (10 + 25 * a.toNatClampNeg)).toNatClampNeg) - 1 = nI ((μ.1 8 (10 + 25 * a.toNatClampNeg)).toNatClampNeg - 1) from pk_sub (a := (μ.1 8 (10 + 25 * a.toNatClampNeg)).toNatClampNeg) (b := 1) (by omega)) ?_
          refine c_iR hw (run_V (As := [.int (nI (a.toNatClampNeg)), .int (nI ((μ.1 8 (10 + 25 * a.toNatClampNeg)).toNatClampNeg - 1))]) (rest := [.int (b)]) (np := 2) hf hw (kn_X8_degree l E _  a.toNatClampNeg ((μ.1 8 (10 + 25 * a.toNatClampNeg)).toNatClampNeg - 1)  (show a.toNatClampNeg < 3 from c1ab) (show (μ.1 8 (10 + 25 * a.toNatClampNeg)).toNatClampNeg - 1 < 12 from (by omega))) ⟨gl_V q219 q220 q221 q5 q222, by decide +kernel⟩ ⟨rfl, rfl, Nat.le_of_ble_eq_true rfl, Nat.le_of_ble_eq_true rfl⟩ (by decide) (c_R E _) rfl rfl hl.1 rfl (Nat.le_of_ble_eq_true rfl) dX8_node_47 ⟨Nat.zero_le _, Nat.zero_le _⟩) (fun H locs hw => ?_)
          refine lv_icmp_le (tgt := 70) hx hb dX8_node_50 (by decide) (fun c15 => ?_) (fun c15 => ?_)
          · refine lv_iconst (v := 0) hx hb dX8_node_70 (by decide) ?_
            refine lv_istore (lv' := [(5, .int 0), (4, .int (nI ((μ.1 8 (10 + 25 * a.toNatClampNeg)).toNatClampNeg))), (0, .ref (E.1 (232))), (1, .int (a)), (2, .int (b)), (3, .int (d))]) hx hb dX8_node_71 hl (by decide) rfl (fun ls hl => ?_)
            refine lv_iconst (v := 0) hx hb dX8_node_73 (by decide) ?_
            refine lv_istore (lv' := [(6, .int 0), (5, .int 0), (4, .int (nI ((μ.1 8 (10 + 25 * a.toNatClampNeg)).toNatClampNeg))), (0, .ref (E.1 (232))), (1, .int (a)), (2, .int (b)), (3, .int (d))]) hx hb dX8_node_74 hl (by decide) rfl (fun ls hl => ?_)
            have key_76 : ∀ (f : Nat) (u : Int32) (k : Nat), k + f = 8 → k ≤ 7 → sp_X8_node μ a b d = lp_X8_node_76 μ a b d f u k → ∀ (ls : Array Slot) (H : Heap) (locs : List Loc), lv_has ls 7 [(0, .ref (E.1 (232))), (1, .int (a)), (2, .int (b)), (3, .int (d)), (4, .int (nI ((μ.1 8 (10 + 25 * a.toNatClampNeg)).toNatClampNeg))), (5, .int (u)), (6, .int (nI k))] → Wk E μ s H locs → W p l e ({ frames := 2, cells := 0, slots := 0, locals := 43 }) s m args below meth c H locs 0 0 (MQ below (va_Qi (fun r u => r = ((sp_X8_node μ a b d)).1 ∧ u = ((sp_X8_node μ a b d)).2) (fun u t => WdU E u t) (inE E)) args s 0 0 (inE E)) (F0 m 76 ls []) := by
              intro f
              induction f with
              | zero => intro u k h1 h2 hq ls H locs hl hw; exfalso; omega
              | succ f ih =>
                intro u k h1 h2 hq ls H locs hl hw
                refine lv_iload hx hb dX8_node_76 (lv_at hl 6 rfl) ?_
                refine lv_aload_n hx hb dX8_node_78 rfl (lv_at hl 0 rfl) ?_
                refine g_f hw hf (by decide) (c_R E _) rfl inlX8 0 (by decide) rfl q90 rfl dX8_node_79 ?_
                refine lv_iconst (v := 1) hx hb dX8_node_82 (by decide) ?_
                refine g_a hw hf (by decide) (c_Rs E _) (vp_lit 1 259 (by decide) (by decide)) (tr_at (y := 1) (by decide) (by decide)) dX8_node_83 ?_
                have hb16 := (hI).2.1.2
                refine fold_i (show μ.1 8 1 = nI ((μ.1 8 1).toNatClampNeg) from (hI).2.1.1) ?_
                refine lv_icmp_ge (tgt := 116) hx hb dX8_node_84 (by decide) (fun c17 => ?_) (fun c17 => ?_)
                · have c17n : ((μ.1 8 1).toNatClampNeg) ≤ k := by have q := (nI_leI (a := ((μ.1 8 1).toNatClampNeg)) (b := k) (by omega) (by omega)); first | exact q.mp c17 | exact fun z => c17 (q.mpr z)
                  refine lv_iload hx hb dX8_node_116 (lv_at hl 5 rfl) ?_
                  refine lv_if_eq (tgt := 128) hx hb dX8_node_118 (by decide) (fun c18 => ?_) (fun c18 => ?_)
                  · refine lv_iload hx hb dX8_node_128 (lv_at hl 5 rfl) ?_
                    refine lv_if_eq (tgt := 138) hx hb dX8_node_130 (by decide) (fun c19 => ?_) (fun c19 => ?_)
                    · refine lv_ldc hx hb hf.2.2.2.1 (hf.2.2.2.2 _ q202) dX8_node_138 ?_
                      exact e_i hf hr hlocks hw rfl ((hq).trans ((if_pos c17).trans ((if_pos c18).trans ((if_pos c19).trans rfl)))) dX8_node_140
                    · refine lv_ldc hx hb hf.2.2.2.1 (hf.2.2.2.2 _ q145) dX8_node_133 ?_
                      refine lv_goto (tgt := 140) hx hb dX8_node_135 (by decide) ?_
                      exact e_i hf hr hlocks hw rfl ((hq).trans ((if_pos c17).trans ((if_pos c18).trans ((if_neg c19).trans rfl)))) dX8_node_140
                  · refine lv_iload hx hb dX8_node_121 (lv_at hl 4 rfl) ?_
                    refine lv_bipush (v := 12) hx hb dX8_node_123 (by decide) ?_
                    refine lv_icmp_ne (tgt := 141) hx hb dX8_node_125 (by decide) (fun c20 => ?_) (fun c20 => ?_)
                    · have c20n : ¬ ((μ.1 8 (10 + 25 * a.toNatClampNeg)).toNatClampNeg) = 12 := by have q := (nI_eq (a := ((μ.1 8 (10 + 25 * a.toNatClampNeg)).toNatClampNeg)) (b := 12) (by omega) (by omega)); first | exact q.mp c20 | exact fun z => c20 (q.mpr z)
                      refine lv_aload_n hx hb dX8_node_141 rfl (lv_at hl 0 rfl) ?_
                      refine c_v hw (run_V (As := []) (rest := []) (np := 0) hf hw (kn_X8_keeps l E _    ) ⟨gl_V q146 q147 q148 q5 q149, by decide +kernel⟩ ⟨rfl, rfl, Nat.le_of_ble_eq_true rfl, Nat.le_of_ble_eq_true rfl⟩ (by decide) (c_R E _) rfl rfl hl.1 rfl (Nat.le_of_ble_eq_true rfl) dX8_node_142 ⟨Nat.zero_le _, Nat.zero_le _⟩) (fun H locs hw => ?_)
                      refine lv_aload_n hx hb dX8_node_145 rfl (lv_at hl 0 rfl) ?_
                      refine g_f hw hf (by decide) (c_R E _) rfl inlX8 0 (by decide) rfl q90 rfl dX8_node_146 ?_
                      refine lv_bipush (v := 10) hx hb dX8_node_149 (by decide) ?_
                      refine lv_bipush (v := 25) hx hb dX8_node_151 (by decide) ?_
                      refine lv_iload_n hx hb dX8_node_153 rfl (lv_at hl 1 rfl) ?_
                      refine fold_i (show a = nI (a.toNatClampNeg) from c1a.1) ?_
                      refine lv_imul hx hb dX8_node_154 ?_
                      refine fold_i (show (25 : Int32) * nI (a.toNatClampNeg) = nI (25 * a.toNatClampNeg) from pk_mul (25) (a.toNatClampNeg)) ?_
                      refine lv_iadd hx hb dX8_node_155 ?_
                      refine fold_i (show (10 : Int32) + nI (25 * a.toNatClampNeg) = nI (10 + 25 * a.toNatClampNeg) from nI_add (10) (25 * a.toNatClampNeg)) ?_
                      refine lv_iconst (v := 1) hx hb dX8_node_156 (by decide) ?_
                      refine lv_iadd hx hb dX8_node_157 ?_
                      refine fold_i (show nI (10 + 25 * a.toNatClampNeg) + (1 : Int32) = nI (10 + 25 * a.toNatClampNeg + 1) from nI_add (10 + 25 * a.toNatClampNeg) (1)) ?_
                      refine lv_iload hx hb dX8_node_158 (lv_at hl 4 rfl) ?_
                      refine lv_iadd hx hb dX8_node_160 ?_
                      refine fold_i (show nI (10 + 25 * a.toNatClampNeg + 1) + nI ((μ.1 8 (10 + 25 * a.toNatClampNeg)).toNatClampNeg) = nI (10 + 25 * a.toNatClampNeg + 1 + ((μ.1 8 (10 + 25 * a.toNatClampNeg)).toNatClampNeg)) from nI_add (10 + 25 * a.toNatClampNeg + 1) ((μ.1 8 (10 + 25 * a.toNatClampNeg)).toNatClampNeg)) ?_
                      refine lv_iload_n hx hb dX8_node_161 rfl (lv_at hl 2 rfl) ?_
                      refine p_a hw hf (by decide) (c_Rs E _) (vp_in_nI (show 10 + 25 * a.toNatClampNeg + 1 + ((μ.1 8 (10 + 25 * a.toNatClampNeg)).toNatClampNeg) < 259 from (by omega)) (by decide)) (by rw [show (nI (10 + 25 * a.toNatClampNeg + 1 + ((μ.1 8 (10 + 25 * a.toNatClampNeg)).toNatClampNeg))).toNatClampNeg = 10 + 25 * a.toNatClampNeg + 1 + ((μ.1 8 (10 + 25 * a.toNatClampNeg)).toNatClampNeg) from (nI_clamp (Nat.lt_trans (show 10 + 25 * a.toNatClampNeg + 1 + ((μ.1 8 (10 + 25 * a.toNatClampNeg)).toNatClampNeg) < 259 from (by omega)) (by decide)))]; exact (s_Rs E _ (by omega) _)) dX8_node_162 (fun H locs hw => ?_)
                      refine lv_aload_n hx hb dX8_node_163 rfl (lv_at hl 0 rfl) ?_
                      refine g_f hw hf (by decide) (c_R E _) rfl inlX8 0 (by decide) rfl q90 rfl dX8_node_164 ?_
                      refine lv_bipush (v := 10) hx hb dX8_node_167 (by decide) ?_
                      refine lv_bipush (v := 25) hx hb dX8_node_169 (by decide) ?_
                      refine lv_iload_n hx hb dX8_node_171 rfl (lv_at hl 1 rfl) ?_
                      refine fold_i (show a = nI (a.toNatClampNeg) from c1a.1) ?_
                      refine lv_imul hx hb dX8_node_172 ?_
                      refine fold_i (show (25 : Int32) * nI (a.toNatClampNeg) = nI (25 * a.toNatClampNeg) from pk_mul (25) (a.toNatClampNeg)) ?_
                      refine lv_iadd hx hb dX8_node_173 ?_
                      refine fold_i (show (10 : Int32) + nI (25 * a.toNatClampNeg) = nI (10 + 25 * a.toNatClampNeg) from nI_add (10) (25 * a.toNatClampNeg)) ?_
                      refine lv_bipush (v := 13) hx hb dX8_node_174 (by decide) ?_
                      refine lv_iadd hx hb dX8_node_176 ?_
                      refine fold_i (show nI (10 + 25 * a.toNatClampNeg) + (13 : Int32) = nI (10 + 25 * a.toNatClampNeg + 13) from nI_add (10 + 25 * a.toNatClampNeg) (13)) ?_
                      refine lv_iload hx hb dX8_node_177 (lv_at hl 4 rfl) ?_
                      refine lv_iadd hx hb dX8_node_179 ?_
                      refine fold_i (show nI (10 + 25 * a.toNatClampNeg + 13) + nI ((μ.1 8 (10 + 25 * a.toNatClampNeg)).toNatClampNeg) = nI (10 + 25 * a.toNatClampNeg + 13 + ((μ.1 8 (10 + 25 * a.toNatClampNeg)).toNatClampNeg)) from nI_add (10 + 25 * a.toNatClampNeg + 13) ((μ.1 8 (10 + 25 * a.toNatClampNeg)).toNatClampNeg)) ?_
                      refine lv_iload_n hx hb dX8_node_180 rfl (lv_at hl 3 rfl) ?_
                      refine p_a hw hf (by decide) (c_Rs E _) (vp_in_nI (show 10 + 25 * a.toNatClampNeg + 13 + ((μ.1 8 (10 + 25 * a.toNatClampNeg)).toNatClampNeg) < 259 from (by omega)) (by decide)) (by rw [show (nI (10 + 25 * a.toNatClampNeg + 13 + ((μ.1 8 (10 + 25 * a.toNatClampNeg)).toNatClampNeg))).toNatClampNeg = 10 + 25 * a.toNatClampNeg + 13 + ((μ.1 8 (10 + 25 * a.toNatClampNeg)).toNatClampNeg) from (nI_clamp (Nat.lt_trans (show 10 + 25 * a.toNatClampNeg + 13 + ((μ.1 8 (10 + 25 * a.toNatClampNeg)).toNatClampNeg) < 259 from (by omega)) (by decide)))]; exact (s_Rs E _ (by omega) _)) dX8_node_181 (fun H locs hw => ?_)
                      refine lv_aload_n hx hb dX8_node_182 rfl (lv_at hl 0 rfl) ?_
                      refine g_f hw hf (by decide) (c_R E _) rfl inlX8 0 (by decide) rfl q90 rfl dX8_node_183 ?_
                      refine lv_bipush (v := 10) hx hb dX8_node_186 (by decide) ?_
                      refine lv_bipush (v := 25) hx hb dX8_node_188 (by decide) ?_
                      refine lv_iload_n hx hb dX8_node_190 rfl (lv_at hl 1 rfl) ?_
                      refine fold_i (show a = nI (a.toNatClampNeg) from c1a.1) ?_
                      refine lv_imul hx hb dX8_node_191 ?_
                      refine fold_i (show (25 : Int32) * nI (a.toNatClampNeg) = nI (25 * a.toNatClampNeg) from pk_mul (25) (a.toNatClampNeg)) ?_
                      refine lv_iadd hx hb dX8_node_192 ?_
                      refine fold_i (show (10 : Int32) + nI (25 * a.toNatClampNeg) = nI (10 + 25 * a.toNatClampNeg) from nI_add (10) (25 * a.toNatClampNeg)) ?_
                      refine lv_dup2_11 hx hb dX8_node_193 rfl rfl ?_
                      refine g_a hw hf (by decide) (c_Rs E _) (vp_in_nI (show 10 + 25 * a.toNatClampNeg < 259 from (by omega)) (by decide)) (tr_at (y := 10 + 25 * a.toNatClampNeg) (by omega) (nI_clamp (Nat.lt_trans (show 10 + 25 * a.toNatClampNeg < 259 from (by omega)) (by decide)))) dX8_node_194 ?_
                      refine lv_iconst (v := 1) hx hb dX8_node_195 (by decide) ?_
                      refine lv_iadd hx hb dX8_node_196 ?_
                      refine p_a hw hf (by decide) (c_Rs E _) (vp_in_nI (show 10 + 25 * a.toNatClampNeg < 259 from (by omega)) (by decide)) (by rw [show (nI (10 + 25 * a.toNatClampNeg)).toNatClampNeg = 10 + 25 * a.toNatClampNeg from (nI_clamp (Nat.lt_trans (show 10 + 25 * a.toNatClampNeg < 259 from (by omega)) (by decide)))]; exact (s_Rs E _ (by omega) _)) dX8_node_197 (fun H locs hw => ?_)
                      refine lv_aload_n hx hb dX8_node_198 rfl (lv_at hl 0 rfl) ?_
                      refine lv_iload hx hb dX8_node_199 (lv_at hl 4 rfl) ?_
                      refine lv_iconst (v := 1) hx hb dX8_node_201 (by decide) ?_
                      refine lv_iadd hx hb dX8_node_202 ?_
                      refine fold_i (show nI ((μ.1 8 (10 + 25 * a.toNatClampNeg)).toNatClampNeg) + (1 : Int32) = nI ((μ.1 8 (10 + 25 * a.toNatClampNeg)).toNatClampNeg + 1) from nI_add ((μ.1 8 (10 + 25 * a.toNatClampNeg)).toNatClampNeg) (1)) ?_
                      refine c_i hw (run_V (As := [.int (nI ((μ.1 8 (10 + 25 * a.toNatClampNeg)).toNatClampNeg + 1))]) (rest := []) (np := 1) hf hw (k_X8_acted l E _  (nI ((μ.1 8 (10 + 25 * a.toNatClampNeg)).toNatClampNeg + 1))  (s7_ni (x := μ.1 7 0) (s7_pM (by decide) (s7_pM (by decide) (s7_pM (by decide) (s7_pC (by decide) (rfl : S7 (μ.1 7 0) μ))))) hst)) ⟨gl_V q150 q151 q152 q5 q153, by decide +kernel⟩ ⟨rfl, rfl, Nat.le_of_ble_eq_true rfl, Nat.le_of_ble_eq_true rfl⟩ (by decide) (c_R E _) rfl rfl hl.1 rfl (Nat.le_of_ble_eq_true rfl) dX8_node_203 ⟨Nat.zero_le _, Nat.zero_le _⟩) (fun H locs hw => ?_)
                      exact e_i hf hr hlocks hw rfl ((hq).trans ((if_pos c17).trans ((if_neg c18).trans ((if_neg c20).trans rfl)))) dX8_node_206
                    · have c20n : ((μ.1 8 (10 + 25 * a.toNatClampNeg)).toNatClampNeg) = 12 := by have q := (nI_eq (a := ((μ.1 8 (10 + 25 * a.toNatClampNeg)).toNatClampNeg)) (b := 12) (by omega) (by omega)); first | exact q.mp c20 | exact fun z => c20 (q.mpr z)
                      refine lv_iload hx hb dX8_node_128 (lv_at hl 5 rfl) ?_
                      refine lv_if_eq (tgt := 138) hx hb dX8_node_130 (by decide) (fun c21 => ?_) (fun c21 => ?_)
                      · refine lv_ldc hx hb hf.2.2.2.1 (hf.2.2.2.2 _ q202) dX8_node_138 ?_
                        exact e_i hf hr hlocks hw rfl ((hq).trans ((if_pos c17).trans ((if_neg c18).trans ((if_pos c20).trans ((if_pos c21).trans rfl))))) dX8_node_140
                      · refine lv_ldc hx hb hf.2.2.2.1 (hf.2.2.2.2 _ q145) dX8_node_133 ?_
                        refine lv_goto (tgt := 140) hx hb dX8_node_135 (by decide) ?_
                        exact e_i hf hr hlocks hw rfl ((hq).trans ((if_pos c17).trans ((if_neg c18).trans ((if_pos c20).trans ((if_neg c21).trans rfl))))) dX8_node_140
                · have c17n : ¬ ((μ.1 8 1).toNatClampNeg) ≤ k := by have q := (nI_leI (a := ((μ.1 8 1).toNatClampNeg)) (b := k) (by omega) (by omega)); first | exact q.mp c17 | exact fun z => c17 (q.mpr z)
                  refine lv_iload hx hb dX8_node_87 (lv_at hl 5 rfl) ?_
                  refine lv_if_eq (tgt := 107) hx hb dX8_node_89 (by decide) (fun c22 => ?_) (fun c22 => ?_)
                  · refine lv_iconst (v := 0) hx hb dX8_node_107 (by decide) ?_
                    refine lv_istore (lv' := [(5, .int 0), (0, .ref (E.1 (232))), (1, .int (a)), (2, .int (b)), (3, .int (d)), (4, .int (nI ((μ.1 8 (10 + 25 * a.toNatClampNeg)).toNatClampNeg))), (6, .int (nI k))]) hx hb dX8_node_108 hl (by decide) rfl (fun ls hl => ?_)
                    refine lv_iinc (v := nI (k + 1)) (lv' := [(6, .int (nI (k + 1))), (5, .int 0), (0, .ref (E.1 (232))), (1, .int (a)), (2, .int (b)), (3, .int (d)), (4, .int (nI ((μ.1 8 (10 + 25 * a.toNatClampNeg)).toNatClampNeg)))]) hx hb dX8_node_110 hl (k := 6) rfl (nI_1 _) (by decide) rfl (fun ls hl => ?_)
                    refine lv_goto (tgt := 76) hx hb dX8_node_113 (by decide) ?_
                    exact ih (0 : Int32) (k + 1) (by omega) (by omega) (((hq).trans ((if_neg c17).trans ((if_pos c22).trans rfl)))) _ _ _ (lv_sub hl [2, 3, 4, 5, 6, 1, 0] rfl) hw
                  · refine lv_aload_n hx hb dX8_node_92 rfl (lv_at hl 0 rfl) ?_
                    refine lv_iload hx hb dX8_node_93 (lv_at hl 6 rfl) ?_
                    refine lv_iconst (v := 0) hx hb dX8_node_95 (by decide) ?_
                    refine c_iR hw (run_V (As := [.int (nI k), .int 0]) (rest := []) (np := 2) hf hw (kn_X8_of l E _  k 0  (show k < 6 from (by omega)) (show 0 < 29 from (by decide))) ⟨gl_V q227 q228 q229 q5 q230, by decide +kernel⟩ ⟨rfl, rfl, Nat.le_of_ble_eq_true rfl, Nat.le_of_ble_eq_true rfl⟩ (by decide) (c_R E _) rfl rfl hl.1 rfl (Nat.le_of_ble_eq_true rfl) dX8_node_96 ⟨Nat.zero_le _, Nat.zero_le _⟩) (fun H locs hw => ?_)
                    have hb23 := ((hI).2.2.2 k (by omega)).1.2
                    refine fold_i (show μ.1 8 (85 + 29 * k + 0) = nI ((μ.1 8 (85 + 29 * k + 0)).toNatClampNeg) from ((hI).2.2.2 k (by omega)).1.1) ?_
                    refine lv_iload_n hx hb dX8_node_99 rfl (lv_at hl 1 rfl) ?_
                    refine fold_i (show a = nI (a.toNatClampNeg) from c1a.1) ?_
                    refine lv_icmp_eq (tgt := 107) hx hb dX8_node_100 (by decide) (fun c24 => ?_) (fun c24 => ?_)
                    · have c24n : ((μ.1 8 (85 + 29 * k + 0)).toNatClampNeg) = (a.toNatClampNeg) := by have q := (nI_eq (a := ((μ.1 8 (85 + 29 * k + 0)).toNatClampNeg)) (b := (a.toNatClampNeg)) (by omega) (by omega)); first | exact q.mp c24 | exact fun z => c24 (q.mpr z)
                      refine lv_iconst (v := 0) hx hb dX8_node_107 (by decide) ?_
                      refine lv_istore (lv' := [(5, .int 0), (0, .ref (E.1 (232))), (1, .int (a)), (2, .int (b)), (3, .int (d)), (4, .int (nI ((μ.1 8 (10 + 25 * a.toNatClampNeg)).toNatClampNeg))), (6, .int (nI k))]) hx hb dX8_node_108 hl (by decide) rfl (fun ls hl => ?_)
                      refine lv_iinc (v := nI (k + 1)) (lv' := [(6, .int (nI (k + 1))), (5, .int 0), (0, .ref (E.1 (232))), (1, .int (a)), (2, .int (b)), (3, .int (d)), (4, .int (nI ((μ.1 8 (10 + 25 * a.toNatClampNeg)).toNatClampNeg)))]) hx hb dX8_node_110 hl (k := 6) rfl (nI_1 _) (by decide) rfl (fun ls hl => ?_)
                      refine lv_goto (tgt := 76) hx hb dX8_node_113 (by decide) ?_
                      exact ih (0 : Int32) (k + 1) (by omega) (by omega) (((hq).trans ((if_neg c17).trans ((if_neg c22).trans ((if_pos c24).trans rfl))))) _ _ _ (lv_sub hl [2, 3, 4, 5, 6, 1, 0] rfl) hw
                    · have c24n : ¬ ((μ.1 8 (85 + 29 * k + 0)).toNatClampNeg) = (a.toNatClampNeg) := by have q := (nI_eq (a := ((μ.1 8 (85 + 29 * k + 0)).toNatClampNeg)) (b := (a.toNatClampNeg)) (by omega) (by omega)); first | exact q.mp c24 | exact fun z => c24 (q.mpr z)
                      refine lv_iconst (v := 1) hx hb dX8_node_103 (by decide) ?_
                      refine lv_goto (tgt := 108) hx hb dX8_node_104 (by decide) ?_
                      refine lv_istore (lv' := [(5, .int 1), (0, .ref (E.1 (232))), (1, .int (a)), (2, .int (b)), (3, .int (d)), (4, .int (nI ((μ.1 8 (10 + 25 * a.toNatClampNeg)).toNatClampNeg))), (6, .int (nI k))]) hx hb dX8_node_108 hl (by decide) rfl (fun ls hl => ?_)
                      refine lv_iinc (v := nI (k + 1)) (lv' := [(6, .int (nI (k + 1))), (5, .int 1), (0, .ref (E.1 (232))), (1, .int (a)), (2, .int (b)), (3, .int (d)), (4, .int (nI ((μ.1 8 (10 + 25 * a.toNatClampNeg)).toNatClampNeg)))]) hx hb dX8_node_110 hl (k := 6) rfl (nI_1 _) (by decide) rfl (fun ls hl => ?_)
                      refine lv_goto (tgt := 76) hx hb dX8_node_113 (by decide) ?_
                      exact ih (1 : Int32) (k + 1) (by omega) (by omega) (((hq).trans ((if_neg c17).trans ((if_neg c22).trans ((if_neg c24).trans rfl))))) _ _ _ (lv_sub hl [2, 3, 4, 5, 6, 1, 0] rfl) hw
            exact key_76 8 (0 : Int32) 0 (by omega) (by omega) (((if_pos c1).trans ((if_pos c2).trans ((if_pos c3).trans ((if_neg c5).trans ((if_pos c15).trans rfl)))))) _ _ _ (lv_sub hl [3, 4, 5, 6, 2, 1, 0] rfl) hw
          · refine lv_iload_n hx hb dX8_node_53 rfl (lv_at hl 4 rfl) ?_
            refine lv_aload_n hx hb dX8_node_54 rfl (lv_at hl 1 rfl) ?_
            refine lv_iload_n hx hb dX8_node_55 rfl (lv_at hl 2 rfl) ?_
            refine fold_i (show a = nI (a.toNatClampNeg) from c1a.1) ?_
            refine lv_iload hx hb dX8_node_56 (lv_at hl 0 rfl) ?_
            refine lv_iconst (v := 1) hx hb dX8_node_58 (by decide) ?_
            refine lv_isub hx hb dX8_node_59 ?_
            refine fold_i (show nI ((μ.1 8 (10 + 25 * a.toNatClampNeg)).toNatClampNeg) - 1 = nI ((μ.1 8 (10 + 25 * a.toNatClampNeg)).toNatClampNeg - 1) from pk_sub (a := (μ.1 8 (10 + 25 * a.toNatClampNeg)).toNatClampNeg) (b := 1) (by omega)) ?_
            refine c_iR hw (run_V (As := [.int (nI (a.toNatClampNeg)), .int (nI ((μ.1 8 (10 + 25 * a.toNatClampNeg)).toNatClampNeg - 1))]) (rest := [.int (d)]) (np := 2) hf hw (kn_X8_ratioOf l E _  a.toNatClampNeg ((μ.1 8 (10 + 25 * a.toNatClampNeg)).toNatClampNeg - 1)  (show a.toNatClampNeg < 3 from c1ab) (show (μ.1 8 (10 + 25 * a.toNatClampNeg)).toNatClampNeg - 1 < 12 from (by omega))) ⟨gl_V q223 q224 q225 q5 q226, by decide +kernel⟩ ⟨rfl, rfl, Nat.le_of_ble_eq_true rfl, Nat.le_of_ble_eq_true rfl⟩ (by decide) (c_R E _) rfl rfl hl.1 rfl (Nat.le_of_ble_eq_true rfl) dX8_node_60 ⟨Nat.zero_le _, Nat.zero_le _⟩) (fun H locs hw => ?_)
            refine lv_icmp_le (tgt := 70) hx hb dX8_node_63 (by decide) (fun c25 => ?_) (fun c25 => ?_)
            · refine lv_iconst (v := 0) hx hb dX8_node_70 (by decide) ?_
              refine lv_istore (lv' := [(5, .int 0), (4, .int (nI ((μ.1 8 (10 + 25 * a.toNatClampNeg)).toNatClampNeg))), (0, .ref (E.1 (232))), (1, .int (a)), (2, .int (b)), (3, .int (d))]) hx hb dX8_node_71 hl (by decide) rfl (fun ls hl => ?_)
              refine lv_iconst (v := 0) hx hb dX8_node_73 (by decide) ?_
              refine lv_istore (lv' := [(6, .int 0), (5, .int 0), (4, .int (nI ((μ.1 8 (10 + 25 * a.toNatClampNeg)).toNatClampNeg))), (0, .ref (E.1 (232))), (1, .int (a)), (2, .int (b)), (3, .int (d))]) hx hb dX8_node_74 hl (by decide) rfl (fun ls hl => ?_)
              have key_76 : ∀ (f : Nat) (u : Int32) (k : Nat), k + f = 8 → k ≤ 7 → sp_X8_node μ a b d = lp_X8_node_76 μ a b d f u k → ∀ (ls : Array Slot) (H : Heap) (locs : List Loc), lv_has ls 7 [(0, .ref (E.1 (232))), (1, .int (a)), (2, .int (b)), (3, .int (d)), (4, .int (nI ((μ.1 8 (10 + 25 * a.toNatClampNeg)).toNatClampNeg))), (5, .int (u)), (6, .int (nI k))] → Wk E μ s H locs → W p l e ({ frames := 2, cells := 0, slots := 0, locals := 43 }) s m args below meth c H locs 0 0 (MQ below (va_Qi (fun r u => r = ((sp_X8_node μ a b d)).1 ∧ u = ((sp_X8_node μ a b d)).2) (fun u t => WdU E u t) (inE E)) args s 0 0 (inE E)) (F0 m 76 ls []) := by
                intro f
                induction f with
                | zero => intro u k h1 h2 hq ls H locs hl hw; exfalso; omega
                | succ f ih =>
                  intro u k h1 h2 hq ls H locs hl hw
                  refine lv_iload hx hb dX8_node_76 (lv_at hl 6 rfl) ?_
                  refine lv_aload_n hx hb dX8_node_78 rfl (lv_at hl 0 rfl) ?_
                  refine g_f hw hf (by decide) (c_R E _) rfl inlX8 0 (by decide) rfl q90 rfl dX8_node_79 ?_
                  refine lv_iconst (v := 1) hx hb dX8_node_82 (by decide) ?_
                  refine g_a hw hf (by decide) (c_Rs E _) (vp_lit 1 259 (by decide) (by decide)) (tr_at (y := 1) (by decide) (by decide)) dX8_node_83 ?_
                  have hb26 := (hI).2.1.2
                  refine fold_i (show μ.1 8 1 = nI ((μ.1 8 1).toNatClampNeg) from (hI).2.1.1) ?_
                  refine lv_icmp_ge (tgt := 116) hx hb dX8_node_84 (by decide) (fun c27 => ?_) (fun c27 => ?_)
                  · have c27n : ((μ.1 8 1).toNatClampNeg) ≤ k := by have q := (nI_leI (a := ((μ.1 8 1).toNatClampNeg)) (b := k) (by omega) (by omega)); first | exact q.mp c27 | exact fun z => c27 (q.mpr z)
                    refine lv_iload hx hb dX8_node_116 (lv_at hl 5 rfl) ?_
                    refine lv_if_eq (tgt := 128) hx hb dX8_node_118 (by decide) (fun c28 => ?_) (fun c28 => ?_)
                    · refine lv_iload hx hb dX8_node_128 (lv_at hl 5 rfl) ?_
                      refine lv_if_eq (tgt := 138) hx hb dX8_node_130 (by decide) (fun c29 => ?_) (fun c29 => ?_)
                      · refine lv_ldc hx hb hf.2.2.2.1 (hf.2.2.2.2 _ q202) dX8_node_138 ?_
                        exact e_i hf hr hlocks hw rfl ((hq).trans ((if_pos c27).trans ((if_pos c28).trans ((if_pos c29).trans rfl)))) dX8_node_140
                      · refine lv_ldc hx hb hf.2.2.2.1 (hf.2.2.2.2 _ q145) dX8_node_133 ?_
                        refine lv_goto (tgt := 140) hx hb dX8_node_135 (by decide) ?_
                        exact e_i hf hr hlocks hw rfl ((hq).trans ((if_pos c27).trans ((if_pos c28).trans ((if_neg c29).trans rfl)))) dX8_node_140
                    · refine lv_iload hx hb dX8_node_121 (lv_at hl 4 rfl) ?_
                      refine lv_bipush (v := 12) hx hb dX8_node_123 (by decide) ?_
                      refine lv_icmp_ne (tgt := 141) hx hb dX8_node_125 (by decide) (fun c30 => ?_) (fun c30 => ?_)
                      · have c30n : ¬ ((μ.1 8 (10 + 25 * a.toNatClampNeg)).toNatClampNeg) = 12 := by have q := (nI_eq (a := ((μ.1 8 (10 + 25 * a.toNatClampNeg)).toNatClampNeg)) (b := 12) (by omega) (by omega)); first | exact q.mp c30 | exact fun z => c30 (q.mpr z)
                        refine lv_aload_n hx hb dX8_node_141 rfl (lv_at hl 0 rfl) ?_
                        refine c_v hw (run_V (As := []) (rest := []) (np := 0) hf hw (kn_X8_keeps l E _    ) ⟨gl_V q146 q147 q148 q5 q149, by decide +kernel⟩ ⟨rfl, rfl, Nat.le_of_ble_eq_true rfl, Nat.le_of_ble_eq_true rfl⟩ (by decide) (c_R E _) rfl rfl hl.1 rfl (Nat.le_of_ble_eq_true rfl) dX8_node_142 ⟨Nat.zero_le _, Nat.zero_le _⟩) (fun H locs hw => ?_)
                        refine lv_aload_n hx hb dX8_node_145 rfl (lv_at hl 0 rfl) ?_
                        refine g_f hw hf (by decide) (c_R E _) rfl inlX8 0 (by decide) rfl q90 rfl dX8_node_146 ?_
                        refine lv_bipush (v := 10) hx hb dX8_node_149 (by decide) ?_
                        refine lv_bipush (v := 25) hx hb dX8_node_151 (by decide) ?_
                        refine lv_iload_n hx hb dX8_node_153 rfl (lv_at hl 1 rfl) ?_
                        refine fold_i (show a = nI (a.toNatClampNeg) from c1a.1) ?_
                        refine lv_imul hx hb dX8_node_154 ?_
                        refine fold_i (show (25 : Int32) * nI (a.toNatClampNeg) = nI (25 * a.toNatClampNeg) from pk_mul (25) (a.toNatClampNeg)) ?_
                        refine lv_iadd hx hb dX8_node_155 ?_
                        refine fold_i (show (10 : Int32) + nI (25 * a.toNatClampNeg) = nI (10 + 25 * a.toNatClampNeg) from nI_add (10) (25 * a.toNatClampNeg)) ?_
                        refine lv_iconst (v := 1) hx hb dX8_node_156 (by decide) ?_
                        refine lv_iadd hx hb dX8_node_157 ?_
                        refine fold_i (show nI (10 + 25 * a.toNatClampNeg) + (1 : Int32) = nI (10 + 25 * a.toNatClampNeg + 1) from nI_add (10 + 25 * a.toNatClampNeg) (1)) ?_
                        refine lv_iload hx hb dX8_node_158 (lv_at hl 4 rfl) ?_
                        refine lv_iadd hx hb dX8_node_160 ?_
                        refine fold_i (show nI (10 + 25 * a.toNatClampNeg + 1) + nI ((μ.1 8 (10 + 25 * a.toNatClampNeg)).toNatClampNeg) = nI (10 + 25 * a.toNatClampNeg + 1 + ((μ.1 8 (10 + 25 * a.toNatClampNeg)).toNatClampNeg)) from nI_add (10 + 25 * a.toNatClampNeg + 1) ((μ.1 8 (10 + 25 * a.toNatClampNeg)).toNatClampNeg)) ?_
                        refine lv_iload_n hx hb dX8_node_161 rfl (lv_at hl 2 rfl) ?_
                        refine p_a hw hf (by decide) (c_Rs E _) (vp_in_nI (show 10 + 25 * a.toNatClampNeg + 1 + ((μ.1 8 (10 + 25 * a.toNatClampNeg)).toNatClampNeg) < 259 from (by omega)) (by decide)) (by rw [show (nI (10 + 25 * a.toNatClampNeg + 1 + ((μ.1 8 (10 + 25 * a.toNatClampNeg)).toNatClampNeg))).toNatClampNeg = 10 + 25 * a.toNatClampNeg + 1 + ((μ.1 8 (10 + 25 * a.toNatClampNeg)).toNatClampNeg) from (nI_clamp (Nat.lt_trans (show 10 + 25 * a.toNatClampNeg + 1 + ((μ.1 8 (10 + 25 * a.toNatClampNeg)).toNatClampNeg) < 259 from (by omega)) (by decide)))]; exact (s_Rs E _ (by omega) _)) dX8_node_162 (fun H locs hw => ?_)
                        refine lv_aload_n hx hb dX8_node_163 rfl (lv_at hl 0 rfl) ?_
                        refine g_f hw hf (by decide) (c_R E _) rfl inlX8 0 (by decide) rfl q90 rfl dX8_node_164 ?_
                        refine lv_bipush (v := 10) hx hb dX8_node_167 (by decide) ?_
                        refine lv_bipush (v := 25) hx hb dX8_node_169 (by decide) ?_
                        refine lv_iload_n hx hb dX8_node_171 rfl (lv_at hl 1 rfl) ?_
                        refine fold_i (show a = nI (a.toNatClampNeg) from c1a.1) ?_
                        refine lv_imul hx hb dX8_node_172 ?_
                        refine fold_i (show (25 : Int32) * nI (a.toNatClampNeg) = nI (25 * a.toNatClampNeg) from pk_mul (25) (a.toNatClampNeg)) ?_
                        refine lv_iadd hx hb dX8_node_173 ?_
                        refine fold_i (show (10 : Int32) + nI (25 * a.toNatClampNeg) = nI (10 + 25 * a.toNatClampNeg) from nI_add (10) (25 * a.toNatClampNeg)) ?_
                        refine lv_bipush (v := 13) hx hb dX8_node_174 (by decide) ?_
                        refine lv_iadd hx hb dX8_node_176 ?_
                        refine fold_i (show nI (10 + 25 * a.toNatClampNeg) + (13 : Int32) = nI (10 + 25 * a.toNatClampNeg + 13) from nI_add (10 + 25 * a.toNatClampNeg) (13)) ?_
                        refine lv_iload hx hb dX8_node_177 (lv_at hl 4 rfl) ?_
                        refine lv_iadd hx hb dX8_node_179 ?_
                        refine fold_i (show nI (10 + 25 * a.toNatClampNeg + 13) + nI ((μ.1 8 (10 + 25 * a.toNatClampNeg)).toNatClampNeg) = nI (10 + 25 * a.toNatClampNeg + 13 + ((μ.1 8 (10 + 25 * a.toNatClampNeg)).toNatClampNeg)) from nI_add (10 + 25 * a.toNatClampNeg + 13) ((μ.1 8 (10 + 25 * a.toNatClampNeg)).toNatClampNeg)) ?_
                        refine lv_iload_n hx hb dX8_node_180 rfl (lv_at hl 3 rfl) ?_
                        refine p_a hw hf (by decide) (c_Rs E _) (vp_in_nI (show 10 + 25 * a.toNatClampNeg + 13 + ((μ.1 8 (10 + 25 * a.toNatClampNeg)).toNatClampNeg) < 259 from (by omega)) (by decide)) (by rw [show (nI (10 + 25 * a.toNatClampNeg + 13 + ((μ.1 8 (10 + 25 * a.toNatClampNeg)).toNatClampNeg))).toNatClampNeg = 10 + 25 * a.toNatClampNeg + 13 + ((μ.1 8 (10 + 25 * a.toNatClampNeg)).toNatClampNeg) from (nI_clamp (Nat.lt_trans (show 10 + 25 * a.toNatClampNeg + 13 + ((μ.1 8 (10 + 25 * a.toNatClampNeg)).toNatClampNeg) < 259 from (by omega)) (by decide)))]; exact (s_Rs E _ (by omega) _)) dX8_node_181 (fun H locs hw => ?_)
                        refine lv_aload_n hx hb dX8_node_182 rfl (lv_at hl 0 rfl) ?_
                        refine g_f hw hf (by decide) (c_R E _) rfl inlX8 0 (by decide) rfl q90 rfl dX8_node_183 ?_
                        refine lv_bipush (v := 10) hx hb dX8_node_186 (by decide) ?_
                        refine lv_bipush (v := 25) hx hb dX8_node_188 (by decide) ?_
                        refine lv_iload_n hx hb dX8_node_190 rfl (lv_at hl 1 rfl) ?_
                        refine fold_i (show a = nI (a.toNatClampNeg) from c1a.1) ?_
                        refine lv_imul hx hb dX8_node_191 ?_
                        refine fold_i (show (25 : Int32) * nI (a.toNatClampNeg) = nI (25 * a.toNatClampNeg) from pk_mul (25) (a.toNatClampNeg)) ?_
                        refine lv_iadd hx hb dX8_node_192 ?_
                        refine fold_i (show (10 : Int32) + nI (25 * a.toNatClampNeg) = nI (10 + 25 * a.toNatClampNeg) from nI_add (10) (25 * a.toNatClampNeg)) ?_
                        refine lv_dup2_11 hx hb dX8_node_193 rfl rfl ?_
                        refine g_a hw hf (by decide) (c_Rs E _) (vp_in_nI (show 10 + 25 * a.toNatClampNeg < 259 from (by omega)) (by decide)) (tr_at (y := 10 + 25 * a.toNatClampNeg) (by omega) (nI_clamp (Nat.lt_trans (show 10 + 25 * a.toNatClampNeg < 259 from (by omega)) (by decide)))) dX8_node_194 ?_
                        refine lv_iconst (v := 1) hx hb dX8_node_195 (by decide) ?_
                        refine lv_iadd hx hb dX8_node_196 ?_
                        refine p_a hw hf (by decide) (c_Rs E _) (vp_in_nI (show 10 + 25 * a.toNatClampNeg < 259 from (by omega)) (by decide)) (by rw [show (nI (10 + 25 * a.toNatClampNeg)).toNatClampNeg = 10 + 25 * a.toNatClampNeg from (nI_clamp (Nat.lt_trans (show 10 + 25 * a.toNatClampNeg < 259 from (by omega)) (by decide)))]; exact (s_Rs E _ (by omega) _)) dX8_node_197 (fun H locs hw => ?_)
                        refine lv_aload_n hx hb dX8_node_198 rfl (lv_at hl 0 rfl) ?_
                        refine lv_iload hx hb dX8_node_199 (lv_at hl 4 rfl) ?_
                        refine lv_iconst (v := 1) hx hb dX8_node_201 (by decide) ?_
                        refine lv_iadd hx hb dX8_node_202 ?_
                        refine fold_i (show nI ((μ.1 8 (10 + 25 * a.toNatClampNeg)).toNatClampNeg) + (1 : Int32) = nI ((μ.1 8 (10 + 25 * a.toNatClampNeg)).toNatClampNeg + 1) from nI_add ((μ.1 8 (10 + 25 * a.toNatClampNeg)).toNatClampNeg) (1)) ?_
                        refine c_i hw (run_V (As := [.int (nI ((μ.1 8 (10 + 25 * a.toNatClampNeg)).toNatClampNeg + 1))]) (rest := []) (np := 1) hf hw (k_X8_acted l E _  (nI ((μ.1 8 (10 + 25 * a.toNatClampNeg)).toNatClampNeg + 1))  (s7_ni (x := μ.1 7 0) (s7_pM (by decide) (s7_pM (by decide) (s7_pM (by decide) (s7_pC (by decide) (rfl : S7 (μ.1 7 0) μ))))) hst)) ⟨gl_V q150 q151 q152 q5 q153, by decide +kernel⟩ ⟨rfl, rfl, Nat.le_of_ble_eq_true rfl, Nat.le_of_ble_eq_true rfl⟩ (by decide) (c_R E _) rfl rfl hl.1 rfl (Nat.le_of_ble_eq_true rfl) dX8_node_203 ⟨Nat.zero_le _, Nat.zero_le _⟩) (fun H locs hw => ?_)
                        exact e_i hf hr hlocks hw rfl ((hq).trans ((if_pos c27).trans ((if_neg c28).trans ((if_neg c30).trans rfl)))) dX8_node_206
                      · have c30n : ((μ.1 8 (10 + 25 * a.toNatClampNeg)).toNatClampNeg) = 12 := by have q := (nI_eq (a := ((μ.1 8 (10 + 25 * a.toNatClampNeg)).toNatClampNeg)) (b := 12) (by omega) (by omega)); first | exact q.mp c30 | exact fun z => c30 (q.mpr z)
                        refine lv_iload hx hb dX8_node_128 (lv_at hl 5 rfl) ?_
                        refine lv_if_eq (tgt := 138) hx hb dX8_node_130 (by decide) (fun c31 => ?_) (fun c31 => ?_)
                        · refine lv_ldc hx hb hf.2.2.2.1 (hf.2.2.2.2 _ q202) dX8_node_138 ?_
                          exact e_i hf hr hlocks hw rfl ((hq).trans ((if_pos c27).trans ((if_neg c28).trans ((if_pos c30).trans ((if_pos c31).trans rfl))))) dX8_node_140
                        · refine lv_ldc hx hb hf.2.2.2.1 (hf.2.2.2.2 _ q145) dX8_node_133 ?_
                          refine lv_goto (tgt := 140) hx hb dX8_node_135 (by decide) ?_
                          exact e_i hf hr hlocks hw rfl ((hq).trans ((if_pos c27).trans ((if_neg c28).trans ((if_pos c30).trans ((if_neg c31).trans rfl))))) dX8_node_140
                  · have c27n : ¬ ((μ.1 8 1).toNatClampNeg) ≤ k := by have q := (nI_leI (a := ((μ.1 8 1).toNatClampNeg)) (b := k) (by omega) (by omega)); first | exact q.mp c27 | exact fun z => c27 (q.mpr z)
                    refine lv_iload hx hb dX8_node_87 (lv_at hl 5 rfl) ?_
                    refine lv_if_eq (tgt := 107) hx hb dX8_node_89 (by decide) (fun c32 => ?_) (fun c32 => ?_)
                    · refine lv_iconst (v := 0) hx hb dX8_node_107 (by decide) ?_
                      refine lv_istore (lv' := [(5, .int 0), (0, .ref (E.1 (232))), (1, .int (a)), (2, .int (b)), (3, .int (d)), (4, .int (nI ((μ.1 8 (10 + 25 * a.toNatClampNeg)).toNatClampNeg))), (6, .int (nI k))]) hx hb dX8_node_108 hl (by decide) rfl (fun ls hl => ?_)
                      refine lv_iinc (v := nI (k + 1)) (lv' := [(6, .int (nI (k + 1))), (5, .int 0), (0, .ref (E.1 (232))), (1, .int (a)), (2, .int (b)), (3, .int (d)), (4, .int (nI ((μ.1 8 (10 + 25 * a.toNatClampNeg)).toNatClampNeg)))]) hx hb dX8_node_110 hl (k := 6) rfl (nI_1 _) (by decide) rfl (fun ls hl => ?_)
                      refine lv_goto (tgt := 76) hx hb dX8_node_113 (by decide) ?_
                      exact ih (0 : Int32) (k + 1) (by omega) (by omega) (((hq).trans ((if_neg c27).trans ((if_pos c32).trans rfl)))) _ _ _ (lv_sub hl [2, 3, 4, 5, 6, 1, 0] rfl) hw
                    · refine lv_aload_n hx hb dX8_node_92 rfl (lv_at hl 0 rfl) ?_
                      refine lv_iload hx hb dX8_node_93 (lv_at hl 6 rfl) ?_
                      refine lv_iconst (v := 0) hx hb dX8_node_95 (by decide) ?_
                      refine c_iR hw (run_V (As := [.int (nI k), .int 0]) (rest := []) (np := 2) hf hw (kn_X8_of l E _  k 0  (show k < 6 from (by omega)) (show 0 < 29 from (by decide))) ⟨gl_V q227 q228 q229 q5 q230, by decide +kernel⟩ ⟨rfl, rfl, Nat.le_of_ble_eq_true rfl, Nat.le_of_ble_eq_true rfl⟩ (by decide) (c_R E _) rfl rfl hl.1 rfl (Nat.le_of_ble_eq_true rfl) dX8_node_96 ⟨Nat.zero_le _, Nat.zero_le _⟩) (fun H locs hw => ?_)
                      have hb33 := ((hI).2.2.2 k (by omega)).1.2
                      refine fold_i (show μ.1 8 (85 + 29 * k + 0) = nI ((μ.1 8 (85 + 29 * k + 0)).toNatClampNeg) from ((hI).2.2.2 k (by omega)).1.1) ?_
                      refine lv_iload_n hx hb dX8_node_99 rfl (lv_at hl 1 rfl) ?_
                      refine fold_i (show a = nI (a.toNatClampNeg) from c1a.1) ?_
                      refine lv_icmp_eq (tgt := 107) hx hb dX8_node_100 (by decide) (fun c34 => ?_) (fun c34 => ?_)
                      · have c34n : ((μ.1 8 (85 + 29 * k + 0)).toNatClampNeg) = (a.toNatClampNeg) := by have q := (nI_eq (a := ((μ.1 8 (85 + 29 * k + 0)).toNatClampNeg)) (b := (a.toNatClampNeg)) (by omega) (by omega)); first | exact q.mp c34 | exact fun z => c34 (q.mpr z)
                        refine lv_iconst (v := 0) hx hb dX8_node_107 (by decide) ?_
                        refine lv_istore (lv' := [(5, .int 0), (0, .ref (E.1 (232))), (1, .int (a)), (2, .int (b)), (3, .int (d)), (4, .int (nI ((μ.1 8 (10 + 25 * a.toNatClampNeg)).toNatClampNeg))), (6, .int (nI k))]) hx hb dX8_node_108 hl (by decide) rfl (fun ls hl => ?_)
                        refine lv_iinc (v := nI (k + 1)) (lv' := [(6, .int (nI (k + 1))), (5, .int 0), (0, .ref (E.1 (232))), (1, .int (a)), (2, .int (b)), (3, .int (d)), (4, .int (nI ((μ.1 8 (10 + 25 * a.toNatClampNeg)).toNatClampNeg)))]) hx hb dX8_node_110 hl (k := 6) rfl (nI_1 _) (by decide) rfl (fun ls hl => ?_)
                        refine lv_goto (tgt := 76) hx hb dX8_node_113 (by decide) ?_
                        exact ih (0 : Int32) (k + 1) (by omega) (by omega) (((hq).trans ((if_neg c27).trans ((if_neg c32).trans ((if_pos c34).trans rfl))))) _ _ _ (lv_sub hl [2, 3, 4, 5, 6, 1, 0] rfl) hw
                      · have c34n : ¬ ((μ.1 8 (85 + 29 * k + 0)).toNatClampNeg) = (a.toNatClampNeg) := by have q := (nI_eq (a := ((μ.1 8 (85 + 29 * k + 0)).toNatClampNeg)) (b := (a.toNatClampNeg)) (by omega) (by omega)); first | exact q.mp c34 | exact fun z => c34 (q.mpr z)
                        refine lv_iconst (v := 1) hx hb dX8_node_103 (by decide) ?_
                        refine lv_goto (tgt := 108) hx hb dX8_node_104 (by decide) ?_
                        refine lv_istore (lv' := [(5, .int 1), (0, .ref (E.1 (232))), (1, .int (a)), (2, .int (b)), (3, .int (d)), (4, .int (nI ((μ.1 8 (10 + 25 * a.toNatClampNeg)).toNatClampNeg))), (6, .int (nI k))]) hx hb dX8_node_108 hl (by decide) rfl (fun ls hl => ?_)
                        refine lv_iinc (v := nI (k + 1)) (lv' := [(6, .int (nI (k + 1))), (5, .int 1), (0, .ref (E.1 (232))), (1, .int (a)), (2, .int (b)), (3, .int (d)), (4, .int (nI ((μ.1 8 (10 + 25 * a.toNatClampNeg)).toNatClampNeg)))]) hx hb dX8_node_110 hl (k := 6) rfl (nI_1 _) (by decide) rfl (fun ls hl => ?_)
                        refine lv_goto (tgt := 76) hx hb dX8_node_113 (by decide) ?_
                        exact ih (1 : Int32) (k + 1) (by omega) (by omega) (((hq).trans ((if_neg c27).trans ((if_neg c32).trans ((if_neg c34).trans rfl))))) _ _ _ (lv_sub hl [2, 3, 4, 5, 6, 1, 0] rfl) hw
              exact key_76 8 (0 : Int32) 0 (by omega) (by omega) (((if_pos c1).trans ((if_pos c2).trans ((if_pos c3).trans ((if_neg c5).trans ((if_neg c15).trans ((if_pos c25).trans rfl))))))) _ _ _ (lv_sub hl [3, 4, 5, 6, 2, 1, 0] rfl) hw
            · refine lv_iconst (v := 1) hx hb dX8_node_66 (by decide) ?_
              refine lv_goto (tgt := 71) hx hb dX8_node_67 (by decide) ?_
              refine lv_istore (lv' := [(5, .int 1), (4, .int (nI ((μ.1 8 (10 + 25 * a.toNatClampNeg)).toNatClampNeg))), (0, .ref (E.1 (232))), (1, .int (a)), (2, .int (b)), (3, .int (d))]) hx hb dX8_node_71 hl (by decide) rfl (fun ls hl => ?_)
              refine lv_iconst (v := 0) hx hb dX8_node_73 (by decide) ?_
              refine lv_istore (lv' := [(6, .int 0), (5, .int 1), (4, .int (nI ((μ.1 8 (10 + 25 * a.toNatClampNeg)).toNatClampNeg))), (0, .ref (E.1 (232))), (1, .int (a)), (2, .int (b)), (3, .int (d))]) hx hb dX8_node_74 hl (by decide) rfl (fun ls hl => ?_)
              have key_76 : ∀ (f : Nat) (u : Int32) (k : Nat), k + f = 8 → k ≤ 7 → sp_X8_node μ a b d = lp_X8_node_76 μ a b d f u k → ∀ (ls : Array Slot) (H : Heap) (locs : List Loc), lv_has ls 7 [(0, .ref (E.1 (232))), (1, .int (a)), (2, .int (b)), (3, .int (d)), (4, .int (nI ((μ.1 8 (10 + 25 * a.toNatClampNeg)).toNatClampNeg))), (5, .int (u)), (6, .int (nI k))] → Wk E μ s H locs → W p l e ({ frames := 2, cells := 0, slots := 0, locals := 43 }) s m args below meth c H locs 0 0 (MQ below (va_Qi (fun r u => r = ((sp_X8_node μ a b d)).1 ∧ u = ((sp_X8_node μ a b d)).2) (fun u t => WdU E u t) (inE E)) args s 0 0 (inE E)) (F0 m 76 ls []) := by
                intro f
                induction f with
                | zero => intro u k h1 h2 hq ls H locs hl hw; exfalso; omega
                | succ f ih =>
                  intro u k h1 h2 hq ls H locs hl hw
                  refine lv_iload hx hb dX8_node_76 (lv_at hl 6 rfl) ?_
                  refine lv_aload_n hx hb dX8_node_78 rfl (lv_at hl 0 rfl) ?_
                  refine g_f hw hf (by decide) (c_R E _) rfl inlX8 0 (by decide) rfl q90 rfl dX8_node_79 ?_
                  refine lv_iconst (v := 1) hx hb dX8_node_82 (by decide) ?_
                  refine g_a hw hf (by decide) (c_Rs E _) (vp_lit 1 259 (by decide) (by decide)) (tr_at (y := 1) (by decide) (by decide)) dX8_node_83 ?_
                  have hb35 := (hI).2.1.2
                  refine fold_i (show μ.1 8 1 = nI ((μ.1 8 1).toNatClampNeg) from (hI).2.1.1) ?_
                  refine lv_icmp_ge (tgt := 116) hx hb dX8_node_84 (by decide) (fun c36 => ?_) (fun c36 => ?_)
                  · have c36n : ((μ.1 8 1).toNatClampNeg) ≤ k := by have q := (nI_leI (a := ((μ.1 8 1).toNatClampNeg)) (b := k) (by omega) (by omega)); first | exact q.mp c36 | exact fun z => c36 (q.mpr z)
                    refine lv_iload hx hb dX8_node_116 (lv_at hl 5 rfl) ?_
                    refine lv_if_eq (tgt := 128) hx hb dX8_node_118 (by decide) (fun c37 => ?_) (fun c37 => ?_)
                    · refine lv_iload hx hb dX8_node_128 (lv_at hl 5 rfl) ?_
                      refine lv_if_eq (tgt := 138) hx hb dX8_node_130 (by decide) (fun c38 => ?_) (fun c38 => ?_)
                      · refine lv_ldc hx hb hf.2.2.2.1 (hf.2.2.2.2 _ q202) dX8_node_138 ?_
                        exact e_i hf hr hlocks hw rfl ((hq).trans ((if_pos c36).trans ((if_pos c37).trans ((if_pos c38).trans rfl)))) dX8_node_140
                      · refine lv_ldc hx hb hf.2.2.2.1 (hf.2.2.2.2 _ q145) dX8_node_133 ?_
                        refine lv_goto (tgt := 140) hx hb dX8_node_135 (by decide) ?_
                        exact e_i hf hr hlocks hw rfl ((hq).trans ((if_pos c36).trans ((if_pos c37).trans ((if_neg c38).trans rfl)))) dX8_node_140
                    · refine lv_iload hx hb dX8_node_121 (lv_at hl 4 rfl) ?_
                      refine lv_bipush (v := 12) hx hb dX8_node_123 (by decide) ?_
                      refine lv_icmp_ne (tgt := 141) hx hb dX8_node_125 (by decide) (fun c39 => ?_) (fun c39 => ?_)
                      · have c39n : ¬ ((μ.1 8 (10 + 25 * a.toNatClampNeg)).toNatClampNeg) = 12 := by have q := (nI_eq (a := ((μ.1 8 (10 + 25 * a.toNatClampNeg)).toNatClampNeg)) (b := 12) (by omega) (by omega)); first | exact q.mp c39 | exact fun z => c39 (q.mpr z)
                        refine lv_aload_n hx hb dX8_node_141 rfl (lv_at hl 0 rfl) ?_
                        refine c_v hw (run_V (As := []) (rest := []) (np := 0) hf hw (kn_X8_keeps l E _    ) ⟨gl_V q146 q147 q148 q5 q149, by decide +kernel⟩ ⟨rfl, rfl, Nat.le_of_ble_eq_true rfl, Nat.le_of_ble_eq_true rfl⟩ (by decide) (c_R E _) rfl rfl hl.1 rfl (Nat.le_of_ble_eq_true rfl) dX8_node_142 ⟨Nat.zero_le _, Nat.zero_le _⟩) (fun H locs hw => ?_)
                        refine lv_aload_n hx hb dX8_node_145 rfl (lv_at hl 0 rfl) ?_
                        refine g_f hw hf (by decide) (c_R E _) rfl inlX8 0 (by decide) rfl q90 rfl dX8_node_146 ?_
                        refine lv_bipush (v := 10) hx hb dX8_node_149 (by decide) ?_
                        refine lv_bipush (v := 25) hx hb dX8_node_151 (by decide) ?_
                        refine lv_iload_n hx hb dX8_node_153 rfl (lv_at hl 1 rfl) ?_
                        refine fold_i (show a = nI (a.toNatClampNeg) from c1a.1) ?_
                        refine lv_imul hx hb dX8_node_154 ?_
                        refine fold_i (show (25 : Int32) * nI (a.toNatClampNeg) = nI (25 * a.toNatClampNeg) from pk_mul (25) (a.toNatClampNeg)) ?_
                        refine lv_iadd hx hb dX8_node_155 ?_
                        refine fold_i (show (10 : Int32) + nI (25 * a.toNatClampNeg) = nI (10 + 25 * a.toNatClampNeg) from nI_add (10) (25 * a.toNatClampNeg)) ?_
                        refine lv_iconst (v := 1) hx hb dX8_node_156 (by decide) ?_
                        refine lv_iadd hx hb dX8_node_157 ?_
                        refine fold_i (show nI (10 + 25 * a.toNatClampNeg) + (1 : Int32) = nI (10 + 25 * a.toNatClampNeg + 1) from nI_add (10 + 25 * a.toNatClampNeg) (1)) ?_
                        refine lv_iload hx hb dX8_node_158 (lv_at hl 4 rfl) ?_
                        refine lv_iadd hx hb dX8_node_160 ?_
                        refine fold_i (show nI (10 + 25 * a.toNatClampNeg + 1) + nI ((μ.1 8 (10 + 25 * a.toNatClampNeg)).toNatClampNeg) = nI (10 + 25 * a.toNatClampNeg + 1 + ((μ.1 8 (10 + 25 * a.toNatClampNeg)).toNatClampNeg)) from nI_add (10 + 25 * a.toNatClampNeg + 1) ((μ.1 8 (10 + 25 * a.toNatClampNeg)).toNatClampNeg)) ?_
                        refine lv_iload_n hx hb dX8_node_161 rfl (lv_at hl 2 rfl) ?_
                        refine p_a hw hf (by decide) (c_Rs E _) (vp_in_nI (show 10 + 25 * a.toNatClampNeg + 1 + ((μ.1 8 (10 + 25 * a.toNatClampNeg)).toNatClampNeg) < 259 from (by omega)) (by decide)) (by rw [show (nI (10 + 25 * a.toNatClampNeg + 1 + ((μ.1 8 (10 + 25 * a.toNatClampNeg)).toNatClampNeg))).toNatClampNeg = 10 + 25 * a.toNatClampNeg + 1 + ((μ.1 8 (10 + 25 * a.toNatClampNeg)).toNatClampNeg) from (nI_clamp (Nat.lt_trans (show 10 + 25 * a.toNatClampNeg + 1 + ((μ.1 8 (10 + 25 * a.toNatClampNeg)).toNatClampNeg) < 259 from (by omega)) (by decide)))]; exact (s_Rs E _ (by omega) _)) dX8_node_162 (fun H locs hw => ?_)
                        refine lv_aload_n hx hb dX8_node_163 rfl (lv_at hl 0 rfl) ?_
                        refine g_f hw hf (by decide) (c_R E _) rfl inlX8 0 (by decide) rfl q90 rfl dX8_node_164 ?_
                        refine lv_bipush (v := 10) hx hb dX8_node_167 (by decide) ?_
                        refine lv_bipush (v := 25) hx hb dX8_node_169 (by decide) ?_
                        refine lv_iload_n hx hb dX8_node_171 rfl (lv_at hl 1 rfl) ?_
                        refine fold_i (show a = nI (a.toNatClampNeg) from c1a.1) ?_
                        refine lv_imul hx hb dX8_node_172 ?_
                        refine fold_i (show (25 : Int32) * nI (a.toNatClampNeg) = nI (25 * a.toNatClampNeg) from pk_mul (25) (a.toNatClampNeg)) ?_
                        refine lv_iadd hx hb dX8_node_173 ?_
                        refine fold_i (show (10 : Int32) + nI (25 * a.toNatClampNeg) = nI (10 + 25 * a.toNatClampNeg) from nI_add (10) (25 * a.toNatClampNeg)) ?_
                        refine lv_bipush (v := 13) hx hb dX8_node_174 (by decide) ?_
                        refine lv_iadd hx hb dX8_node_176 ?_
                        refine fold_i (show nI (10 + 25 * a.toNatClampNeg) + (13 : Int32) = nI (10 + 25 * a.toNatClampNeg + 13) from nI_add (10 + 25 * a.toNatClampNeg) (13)) ?_
                        refine lv_iload hx hb dX8_node_177 (lv_at hl 4 rfl) ?_
                        refine lv_iadd hx hb dX8_node_179 ?_
                        refine fold_i (show nI (10 + 25 * a.toNatClampNeg + 13) + nI ((μ.1 8 (10 + 25 * a.toNatClampNeg)).toNatClampNeg) = nI (10 + 25 * a.toNatClampNeg + 13 + ((μ.1 8 (10 + 25 * a.toNatClampNeg)).toNatClampNeg)) from nI_add (10 + 25 * a.toNatClampNeg + 13) ((μ.1 8 (10 + 25 * a.toNatClampNeg)).toNatClampNeg)) ?_
                        refine lv_iload_n hx hb dX8_node_180 rfl (lv_at hl 3 rfl) ?_
                        refine p_a hw hf (by decide) (c_Rs E _) (vp_in_nI (show 10 + 25 * a.toNatClampNeg + 13 + ((μ.1 8 (10 + 25 * a.toNatClampNeg)).toNatClampNeg) < 259 from (by omega)) (by decide)) (by rw [show (nI (10 + 25 * a.toNatClampNeg + 13 + ((μ.1 8 (10 + 25 * a.toNatClampNeg)).toNatClampNeg))).toNatClampNeg = 10 + 25 * a.toNatClampNeg + 13 + ((μ.1 8 (10 + 25 * a.toNatClampNeg)).toNatClampNeg) from (nI_clamp (Nat.lt_trans (show 10 + 25 * a.toNatClampNeg + 13 + ((μ.1 8 (10 + 25 * a.toNatClampNeg)).toNatClampNeg) < 259 from (by omega)) (by decide)))]; exact (s_Rs E _ (by omega) _)) dX8_node_181 (fun H locs hw => ?_)
                        refine lv_aload_n hx hb dX8_node_182 rfl (lv_at hl 0 rfl) ?_
                        refine g_f hw hf (by decide) (c_R E _) rfl inlX8 0 (by decide) rfl q90 rfl dX8_node_183 ?_
                        refine lv_bipush (v := 10) hx hb dX8_node_186 (by decide) ?_
                        refine lv_bipush (v := 25) hx hb dX8_node_188 (by decide) ?_
                        refine lv_iload_n hx hb dX8_node_190 rfl (lv_at hl 1 rfl) ?_
                        refine fold_i (show a = nI (a.toNatClampNeg) from c1a.1) ?_
                        refine lv_imul hx hb dX8_node_191 ?_
                        refine fold_i (show (25 : Int32) * nI (a.toNatClampNeg) = nI (25 * a.toNatClampNeg) from pk_mul (25) (a.toNatClampNeg)) ?_
                        refine lv_iadd hx hb dX8_node_192 ?_
                        refine fold_i (show (10 : Int32) + nI (25 * a.toNatClampNeg) = nI (10 + 25 * a.toNatClampNeg) from nI_add (10) (25 * a.toNatClampNeg)) ?_
                        refine lv_dup2_11 hx hb dX8_node_193 rfl rfl ?_
                        refine g_a hw hf (by decide) (c_Rs E _) (vp_in_nI (show 10 + 25 * a.toNatClampNeg < 259 from (by omega)) (by decide)) (tr_at (y := 10 + 25 * a.toNatClampNeg) (by omega) (nI_clamp (Nat.lt_trans (show 10 + 25 * a.toNatClampNeg < 259 from (by omega)) (by decide)))) dX8_node_194 ?_
                        refine lv_iconst (v := 1) hx hb dX8_node_195 (by decide) ?_
                        refine lv_iadd hx hb dX8_node_196 ?_
                        refine p_a hw hf (by decide) (c_Rs E _) (vp_in_nI (show 10 + 25 * a.toNatClampNeg < 259 from (by omega)) (by decide)) (by rw [show (nI (10 + 25 * a.toNatClampNeg)).toNatClampNeg = 10 + 25 * a.toNatClampNeg from (nI_clamp (Nat.lt_trans (show 10 + 25 * a.toNatClampNeg < 259 from (by omega)) (by decide)))]; exact (s_Rs E _ (by omega) _)) dX8_node_197 (fun H locs hw => ?_)
                        refine lv_aload_n hx hb dX8_node_198 rfl (lv_at hl 0 rfl) ?_
                        refine lv_iload hx hb dX8_node_199 (lv_at hl 4 rfl) ?_
                        refine lv_iconst (v := 1) hx hb dX8_node_201 (by decide) ?_
                        refine lv_iadd hx hb dX8_node_202 ?_
                        refine fold_i (show nI ((μ.1 8 (10 + 25 * a.toNatClampNeg)).toNatClampNeg) + (1 : Int32) = nI ((μ.1 8 (10 + 25 * a.toNatClampNeg)).toNatClampNeg + 1) from nI_add ((μ.1 8 (10 + 25 * a.toNatClampNeg)).toNatClampNeg) (1)) ?_
                        refine c_i hw (run_V (As := [.int (nI ((μ.1 8 (10 + 25 * a.toNatClampNeg)).toNatClampNeg + 1))]) (rest := []) (np := 1) hf hw (k_X8_acted l E _  (nI ((μ.1 8 (10 + 25 * a.toNatClampNeg)).toNatClampNeg + 1))  (s7_ni (x := μ.1 7 0) (s7_pM (by decide) (s7_pM (by decide) (s7_pM (by decide) (s7_pC (by decide) (rfl : S7 (μ.1 7 0) μ))))) hst)) ⟨gl_V q150 q151 q152 q5 q153, by decide +kernel⟩ ⟨rfl, rfl, Nat.le_of_ble_eq_true rfl, Nat.le_of_ble_eq_true rfl⟩ (by decide) (c_R E _) rfl rfl hl.1 rfl (Nat.le_of_ble_eq_true rfl) dX8_node_203 ⟨Nat.zero_le _, Nat.zero_le _⟩) (fun H locs hw => ?_)
                        exact e_i hf hr hlocks hw rfl ((hq).trans ((if_pos c36).trans ((if_neg c37).trans ((if_neg c39).trans rfl)))) dX8_node_206
                      · have c39n : ((μ.1 8 (10 + 25 * a.toNatClampNeg)).toNatClampNeg) = 12 := by have q := (nI_eq (a := ((μ.1 8 (10 + 25 * a.toNatClampNeg)).toNatClampNeg)) (b := 12) (by omega) (by omega)); first | exact q.mp c39 | exact fun z => c39 (q.mpr z)
                        refine lv_iload hx hb dX8_node_128 (lv_at hl 5 rfl) ?_
                        refine lv_if_eq (tgt := 138) hx hb dX8_node_130 (by decide) (fun c40 => ?_) (fun c40 => ?_)
                        · refine lv_ldc hx hb hf.2.2.2.1 (hf.2.2.2.2 _ q202) dX8_node_138 ?_
                          exact e_i hf hr hlocks hw rfl ((hq).trans ((if_pos c36).trans ((if_neg c37).trans ((if_pos c39).trans ((if_pos c40).trans rfl))))) dX8_node_140
                        · refine lv_ldc hx hb hf.2.2.2.1 (hf.2.2.2.2 _ q145) dX8_node_133 ?_
                          refine lv_goto (tgt := 140) hx hb dX8_node_135 (by decide) ?_
                          exact e_i hf hr hlocks hw rfl ((hq).trans ((if_pos c36).trans ((if_neg c37).trans ((if_pos c39).trans ((if_neg c40).trans rfl))))) dX8_node_140
                  · have c36n : ¬ ((μ.1 8 1).toNatClampNeg) ≤ k := by have q := (nI_leI (a := ((μ.1 8 1).toNatClampNeg)) (b := k) (by omega) (by omega)); first | exact q.mp c36 | exact fun z => c36 (q.mpr z)
                    refine lv_iload hx hb dX8_node_87 (lv_at hl 5 rfl) ?_
                    refine lv_if_eq (tgt := 107) hx hb dX8_node_89 (by decide) (fun c41 => ?_) (fun c41 => ?_)
                    · refine lv_iconst (v := 0) hx hb dX8_node_107 (by decide) ?_
                      refine lv_istore (lv' := [(5, .int 0), (0, .ref (E.1 (232))), (1, .int (a)), (2, .int (b)), (3, .int (d)), (4, .int (nI ((μ.1 8 (10 + 25 * a.toNatClampNeg)).toNatClampNeg))), (6, .int (nI k))]) hx hb dX8_node_108 hl (by decide) rfl (fun ls hl => ?_)
                      refine lv_iinc (v := nI (k + 1)) (lv' := [(6, .int (nI (k + 1))), (5, .int 0), (0, .ref (E.1 (232))), (1, .int (a)), (2, .int (b)), (3, .int (d)), (4, .int (nI ((μ.1 8 (10 + 25 * a.toNatClampNeg)).toNatClampNeg)))]) hx hb dX8_node_110 hl (k := 6) rfl (nI_1 _) (by decide) rfl (fun ls hl => ?_)
                      refine lv_goto (tgt := 76) hx hb dX8_node_113 (by decide) ?_
                      exact ih (0 : Int32) (k + 1) (by omega) (by omega) (((hq).trans ((if_neg c36).trans ((if_pos c41).trans rfl)))) _ _ _ (lv_sub hl [2, 3, 4, 5, 6, 1, 0] rfl) hw
                    · refine lv_aload_n hx hb dX8_node_92 rfl (lv_at hl 0 rfl) ?_
                      refine lv_iload hx hb dX8_node_93 (lv_at hl 6 rfl) ?_
                      refine lv_iconst (v := 0) hx hb dX8_node_95 (by decide) ?_
                      refine c_iR hw (run_V (As := [.int (nI k), .int 0]) (rest := []) (np := 2) hf hw (kn_X8_of l E _  k 0  (show k < 6 from (by omega)) (show 0 < 29 from (by decide))) ⟨gl_V q227 q228 q229 q5 q230, by decide +kernel⟩ ⟨rfl, rfl, Nat.le_of_ble_eq_true rfl, Nat.le_of_ble_eq_true rfl⟩ (by decide) (c_R E _) rfl rfl hl.1 rfl (Nat.le_of_ble_eq_true rfl) dX8_node_96 ⟨Nat.zero_le _, Nat.zero_le _⟩) (fun H locs hw => ?_)
                      have hb42 := ((hI).2.2.2 k (by omega)).1.2
                      refine fold_i (show μ.1 8 (85 + 29 * k + 0) = nI ((μ.1 8 (85 + 29 * k + 0)).toNatClampNeg) from ((hI).2.2.2 k (by omega)).1.1) ?_
                      refine lv_iload_n hx hb dX8_node_99 rfl (lv_at hl 1 rfl) ?_
                      refine fold_i (show a = nI (a.toNatClampNeg) from c1a.1) ?_
                      refine lv_icmp_eq (tgt := 107) hx hb dX8_node_100 (by decide) (fun c43 => ?_) (fun c43 => ?_)
                      · have c43n : ((μ.1 8 (85 + 29 * k + 0)).toNatClampNeg) = (a.toNatClampNeg) := by have q := (nI_eq (a := ((μ.1 8 (85 + 29 * k + 0)).toNatClampNeg)) (b := (a.toNatClampNeg)) (by omega) (by omega)); first | exact q.mp c43 | exact fun z => c43 (q.mpr z)
                        refine lv_iconst (v := 0) hx hb dX8_node_107 (by decide) ?_
                        refine lv_istore (lv' := [(5, .int 0), (0, .ref (E.1 (232))), (1, .int (a)), (2, .int (b)), (3, .int (d)), (4, .int (nI ((μ.1 8 (10 + 25 * a.toNatClampNeg)).toNatClampNeg))), (6, .int (nI k))]) hx hb dX8_node_108 hl (by decide) rfl (fun ls hl => ?_)
                        refine lv_iinc (v := nI (k + 1)) (lv' := [(6, .int (nI (k + 1))), (5, .int 0), (0, .ref (E.1 (232))), (1, .int (a)), (2, .int (b)), (3, .int (d)), (4, .int (nI ((μ.1 8 (10 + 25 * a.toNatClampNeg)).toNatClampNeg)))]) hx hb dX8_node_110 hl (k := 6) rfl (nI_1 _) (by decide) rfl (fun ls hl => ?_)
                        refine lv_goto (tgt := 76) hx hb dX8_node_113 (by decide) ?_
                        exact ih (0 : Int32) (k + 1) (by omega) (by omega) (((hq).trans ((if_neg c36).trans ((if_neg c41).trans ((if_pos c43).trans rfl))))) _ _ _ (lv_sub hl [2, 3, 4, 5, 6, 1, 0] rfl) hw
                      · have c43n : ¬ ((μ.1 8 (85 + 29 * k + 0)).toNatClampNeg) = (a.toNatClampNeg) := by have q := (nI_eq (a := ((μ.1 8 (85 + 29 * k + 0)).toNatClampNeg)) (b := (a.toNatClampNeg)) (by omega) (by omega)); first | exact q.mp c43 | exact fun z => c43 (q.mpr z)
                        refine lv_iconst (v := 1) hx hb dX8_node_103 (by decide) ?_
                        refine lv_goto (tgt := 108) hx hb dX8_node_104 (by decide) ?_
                        refine lv_istore (lv' := [(5, .int 1), (0, .ref (E.1 (232))), (1, .int (a)), (2, .int (b)), (3, .int (d)), (4, .int (nI ((μ.1 8 (10 + 25 * a.toNatClampNeg)).toNatClampNeg))), (6, .int (nI k))]) hx hb dX8_node_108 hl (by decide) rfl (fun ls hl => ?_)
                        refine lv_iinc (v := nI (k + 1)) (lv' := [(6, .int (nI (k + 1))), (5, .int 1), (0, .ref (E.1 (232))), (1, .int (a)), (2, .int (b)), (3, .int (d)), (4, .int (nI ((μ.1 8 (10 + 25 * a.toNatClampNeg)).toNatClampNeg)))]) hx hb dX8_node_110 hl (k := 6) rfl (nI_1 _) (by decide) rfl (fun ls hl => ?_)
                        refine lv_goto (tgt := 76) hx hb dX8_node_113 (by decide) ?_
                        exact ih (1 : Int32) (k + 1) (by omega) (by omega) (((hq).trans ((if_neg c36).trans ((if_neg c41).trans ((if_neg c43).trans rfl))))) _ _ _ (lv_sub hl [2, 3, 4, 5, 6, 1, 0] rfl) hw
              exact key_76 8 (1 : Int32) 0 (by omega) (by omega) (((if_pos c1).trans ((if_pos c2).trans ((if_pos c3).trans ((if_neg c5).trans ((if_neg c15).trans ((if_neg c25).trans rfl))))))) _ _ _ (lv_sub hl [3, 4, 5, 6, 2, 1, 0] rfl) hw
      · replace c3 := (bz_0 _).mp c3
        refine lv_ldc hx hb hf.2.2.2.1 (hf.2.2.2.2 _ q154) dX8_node_25 ?_
        exact e_i hf hr hlocks hw rfl ((if_pos c1).trans ((if_pos c2).trans ((if_neg c3).trans rfl))) dX8_node_27
