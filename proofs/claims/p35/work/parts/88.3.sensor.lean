/-! ===== the law: sensor ===== -/
section LV
variable {p : Program} {l : Launch} {e : Env} {s : State} {m : MethodId} {below : List Frame} {meth : Method} {c : Code} {H : Heap} {locs : List Loc} {Q : State → Prop}
variable {ls : Array Slot} {E : En} {μ : Mu} {b L : Nat} {xs : Nat → Int32}
set_option maxHeartbeats 8000000 in
set_option maxRecDepth 100000 in
theorem law_sensor (hf : CallFix p m c code 14 s #[Value.ref b] wsL_law RL) (hX : va_X b L xs s s.heap) (hbl : b < s.heap.size) (hbA : ¬ inE E b) (hL : L < 2 ^ 31) {k : Nat} (hk : k < 4) (h : Gd (μ.1 0) 2 k 0) (h2 : μ.1 0 2 = -1) (hO : Hok μ) (hl : lv_has ls 14 [(3, .int (nI k)), (2, .int 1), (1, .ref (E.1 231)), (0, .ref b)]) (hw : Wk E μ s H locs)
    (kk : ∀ (μ : Mu) (H : Heap) (locs : List Loc) (ls : Array Slot), Gd (μ.1 0) 2 (k + 1) 0 → μ.1 0 2 = -1 → Hok μ → lv_has ls 14 [(3, .int (nI (k + 1))), (2, .int 1), (1, .ref (E.1 231)), (0, .ref b)] → Wk E μ s H locs → W p l e room_1 s m #[Value.ref b] below meth c H locs 232 1863 Q (F0 m 160 ls [])) : W p l e room_1 s m #[Value.ref b] below meth c H locs 232 1863 Q (F0 m 160 ls []) := by
  have hx := hf.1
  have hb := hf.2.1
  refine lv_iload_n hx hb dL_law_160 rfl (lv_at hl 0 rfl) ?_
  refine lv_iconst (v := 4) hx hb dL_law_161 (by decide) ?_
  refine lv_icmp_ge (tgt := 247) hx hb dL_law_162 (by decide) (fun c => absurd c (fun q => by have := (nI_leI (a := 4) (b := k) (by omega) (by omega)).mp q; omega)) (fun _ => ?_)
  refine lv_iload_n hx hb dL_law_165 rfl (lv_at hl 1 rfl) ?_
  refine lv_if_eq (tgt := 247) hx hb dL_law_166 (by decide) (fun c => absurd c (by decide)) (fun _ => ?_)
  refine lv_aload_n hx hb dL_law_169 rfl (lv_at hl 3 rfl) ?_
  refine lv_bipush (v := 20) hx hb dL_law_170 (by decide) ?_
  refine lv_iload_n hx hb dL_law_172 rfl (lv_at hl 0 rfl) ?_
  refine lv_iadd hx hb dL_law_173 ?_
  refine fold_i (show (20 + nI k : Int32) = nI (20 + k) from nI_add 20 k) ?_
  refine c_cell (k := nI (20 + k)) hf hw hX hbl hbA hL (nI_pos (by omega)) ⟨Nat.le_of_ble_eq_true rfl, Nat.le_of_ble_eq_true rfl⟩ hl.1 (Nat.le_of_ble_eq_true rfl) dL_law_174 ⟨Nat.le_of_ble_eq_true rfl, Nat.le_of_ble_eq_true rfl⟩ (fun r1 H locs hr1 hw => ?_)
  refine lv_istore (lv' := [(4, .int r1), (3, .int (nI k)), (2, .int 1), (1, .ref (E.1 231)), (0, .ref b)]) hx hb dL_law_177 hl (by decide) rfl (fun ls hl => ?_)
  refine lv_aload_n hx hb dL_law_179 rfl (lv_at hl 3 rfl) ?_
  refine lv_iload hx hb dL_law_180 (lv_at hl 0 rfl) ?_
  refine lv_iconst (v := 2) hx hb dL_law_182 (by decide) ?_
  refine lv_irem hx hb dL_law_183 (by decide) ?_
  refine lv_topi (fun wi ewi => ?_)
  obtain ⟨t, ht, rfl⟩ : ∃ t : Nat, t < 2 ∧ wi = nI t := by rw [ewi]; exact rem_n2 (w := 2) rfl hr1 (by decide) (by decide)
  clear ewi
  refine lv_iconst (v := 2) hx hb dL_law_184 (by decide) ?_
  refine lv_iload_n hx hb dL_law_185 rfl (lv_at hl 1 rfl) ?_
  refine lv_iconst (v := 3) hx hb dL_law_186 (by decide) ?_
  refine lv_irem hx hb dL_law_187 (by decide) ?_
  refine fold_i (show (nI k) - (nI k) / 3 * 3 = nI (k % 3) from pk_rem (d := 3) (by omega) (by decide) (by decide)) ?_
  refine lv_iadd hx hb dL_law_188 ?_
  refine fold_i (show (2 + nI (k % 3) : Int32) = nI (2 + (k % 3)) from nI_add 2 (k % 3)) ?_
  refine lv_sipush (v := 1000) hx hb dL_law_189 (by decide) ?_
  refine lv_iload hx hb dL_law_192 (lv_at hl 0 rfl) ?_
  refine lv_iconst (v := 2) hx hb dL_law_194 (by decide) ?_
  refine lv_idiv hx hb dL_law_195 (by decide) ?_
  refine lv_ldc hx hb hf.2.2.2.1 (hf.2.2.2.2 _ q5) dL_law_196 ?_
  refine lv_irem hx hb dL_law_198 (by decide) ?_
  refine lv_iadd hx hb dL_law_199 ?_
  refine lv_topi (fun w0 ew0 => ?_)
  have hw0 : 1000 ≤ w0.toInt ∧ w0.toInt ≤ 2000000 := by
      have q := rem_a (a := 1000) (z := r1 / 2) (d := 300000) (n := 300000) (by decide) (div_b hr1 (by decide)).1 (by decide) (by decide) (by decide)
      rw [show (1000 : Int32).toInt = 1000 by decide] at q
      rw [ew0]
      omega
  clear ew0
  refine c_iV (v := nI k) (P := fun z => Gm (z.1 0) 2 k 0 ∧ Hok z) (sn_v h h2 ht hk hO hw0) hw (run_V (As := [.int (nI t), .int (nI (2 + (k % 3))), .int w0]) (rest := []) (np := 3) hf hw (k_X7_sensor l E _ (nI t) (nI (2 + (k % 3))) w0 hO.K) ⟨gl_V q443 q444 q445 q2 q446, by decide +kernel⟩ ⟨rfl, rfl, Nat.le_of_ble_eq_true rfl, Nat.le_of_ble_eq_true rfl⟩ (by decide) (c_O E _) rfl rfl hl.1 rfl (Nat.le_of_ble_eq_true rfl) dL_law_200 ⟨Nat.le_of_ble_eq_true rfl, Nat.le_of_ble_eq_true rfl⟩) (fun μ2 H locs s2 hw => ?_)
  obtain ⟨gm, o2⟩ := s2
  refine lv_iload_n hx hb dL_law_203 rfl (lv_at hl 1 rfl) ?_
  refine lv_icmp_ne (tgt := 239) hx hb dL_law_204 (by decide) (fun c => absurd rfl c) (fun _ => ?_)
  refine lv_aload_n hx hb dL_law_207 rfl (lv_at hl 3 rfl) ?_
  refine lv_iload_n hx hb dL_law_208 rfl (lv_at hl 1 rfl) ?_
  refine lv_iload_n hx hb dL_law_209 rfl (lv_at hl 1 rfl) ?_
  refine lv_iconst (v := 3) hx hb dL_law_210 (by decide) ?_
  refine lv_irem hx hb dL_law_211 (by decide) ?_
  refine fold_i (show (nI k) - (nI k) / 3 * 3 = nI (k % 3) from pk_rem (d := 3) (by omega) (by decide) (by decide)) ?_
  refine lv_iload_n hx hb dL_law_212 rfl (lv_at hl 1 rfl) ?_
  refine lv_iconst (v := 3) hx hb dL_law_213 (by decide) ?_
  refine lv_idiv hx hb dL_law_214 (by decide) ?_
  refine fold_i (show (nI k) / 3 = nI (k / 3) from pk_div (d := 3) (by omega) (by decide) (by decide)) ?_
  refine c_iV (v := nI (1 + k / 3)) (P := fun z => Gd (z.1 0) 2 (k + 1) 0 ∧ z.1 0 2 = -1 ∧ Hok z) (pg_v gm o2) hw (run_V (As := [.int (nI k), .int (nI (k % 3)), .int (nI (k / 3))]) (rest := []) (np := 3) hf hw (k_X7_plug l E _ (nI k) (nI (k % 3)) (nI (k / 3)) o2.K) ⟨gl_V q473 q474 q475 q2 q476, by decide +kernel⟩ ⟨rfl, rfl, Nat.le_of_ble_eq_true rfl, Nat.le_of_ble_eq_true rfl⟩ (by decide) (c_O E _) rfl rfl hl.1 rfl (Nat.le_of_ble_eq_true rfl) dL_law_215 ⟨Nat.le_of_ble_eq_true rfl, Nat.le_of_ble_eq_true rfl⟩) (fun μ3 H locs s3 hw => ?_)
  obtain ⟨g3, z3, o3⟩ := s3
  refine lv_iconst (v := 1) hx hb dL_law_218 (by decide) ?_
  refine lv_iload_n hx hb dL_law_219 rfl (lv_at hl 1 rfl) ?_
  refine lv_iconst (v := 3) hx hb dL_law_220 (by decide) ?_
  refine lv_idiv hx hb dL_law_221 (by decide) ?_
  refine fold_i (show (nI k) / 3 = nI (k / 3) from pk_div (d := 3) (by omega) (by decide) (by decide)) ?_
  refine lv_iadd hx hb dL_law_222 ?_
  refine fold_i (show (1 + nI (k / 3) : Int32) = nI (1 + (k / 3)) from nI_add 1 (k / 3)) ?_
  refine lv_icmp_ne (tgt := 239) hx hb dL_law_223 (by decide) (fun c => absurd rfl c) (fun _ => ?_)
  refine lv_aload_n hx hb dL_law_226 rfl (lv_at hl 3 rfl) ?_
  refine lv_iload hx hb dL_law_227 (lv_at hl 0 rfl) ?_
  refine c_i1 hw (run_S (As := [.ref (E.1 231), .int r1]) (rest := []) (np := 2) hf hw (k_L_holds l E _ (T := 2) (N := k + 1) (B := 0) g3 hr1) ⟨gl_S q94 q95 q96 q97, by decide +kernel⟩ ⟨rfl, rfl, Nat.le_of_ble_eq_true rfl, Nat.le_of_ble_eq_true rfl⟩ rfl hl.1 rfl (Nat.le_of_ble_eq_true rfl) dL_law_229 ⟨Nat.le_of_ble_eq_true rfl, Nat.le_of_ble_eq_true rfl⟩) (fun μ4 H locs s4 hw => ?_)
  have t4 := Same.rf.tr s4
  refine lv_if_eq (tgt := 239) hx hb dL_law_232 (by decide) (fun c => absurd c (by decide)) (fun _ => ?_)
  refine lv_iconst (v := 1) hx hb dL_law_235 (by decide) ?_
  refine lv_goto (tgt := 240) hx hb dL_law_236 (by decide) ?_
  refine lv_istore_n (lv' := [(2, .int 1), (4, .int r1), (3, .int (nI k)), (1, .ref (E.1 231)), (0, .ref b)]) hx hb dL_law_240 rfl hl (by decide) rfl (fun ls hl => ?_)
  refine lv_iinc (v := nI (k + 1)) (lv' := [(3, .int (nI (k + 1))), (2, .int 1), (4, .int r1), (1, .ref (E.1 231)), (0, .ref b)]) hx hb dL_law_241 hl (k := 2) rfl (nI_1 _) (by decide) rfl (fun ls hl => ?_)
  refine lv_goto (tgt := 160) hx hb dL_law_244 (by decide) ?_
  exact kk _ _ _ _ (by rw [t4.g]; exact g3) (by rw [t4.g]; exact z3) (o3.same t4) (lv_sub hl [0, 1, 3, 4] rfl) hw
end LV
