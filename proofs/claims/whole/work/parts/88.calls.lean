/-! ===== the law's 32 calls, one row each ===== -/
theorem inv_K {B : Nat} {μ : Mu} (h : Inv B μ) : KOk μ.2.2 := by
  obtain ⟨-, ⟨st, -, -, -, k, -⟩, -⟩ := h
  exact k
theorem inv_6 {B : Nat} {μ : Mu} (h : Inv B μ) : ChOk (μ.1 6) := h.2.2.2.2
section XM
variable {B : Nat} {μ m : Mu}
theorem x_RI (h : Inv B μ) (q : H7 μ.1 m) : RI (m.1 8) := by
  rw [q 8 (by decide)]
  exact simS_RI h.1
theorem x_G (h : Inv B μ) (q : H7 μ.1 m) : RG (m.1 8) := by
  rw [q 8 (by decide)]
  exact (simS_R h.1).1
theorem x_S (h : Inv B μ) (q : H7 μ.1 m) : ∀ n, n < (m.1 8 1).toNatClampNeg → RS (m.1 8) n := by
  rw [q 8 (by decide)]
  exact (simS_R h.1).2
theorem x_A (h : Inv B μ) (q : H7 μ.1 m) : RGA m := ⟨x_G h q, x_S h q⟩
theorem x_T (h : Inv B μ) (q : H7 μ.1 m) : ∀ t, t < 3 → RT (m.1 8) t := fun t ht => ((x_G h q).2.1 t ht).1
theorem x_m (h : Inv B μ) (q : H7 μ.1 m) : ni 10 (m.1 8 8) := by
  rw [q 8 (by decide)]
  exact h.1.2.2.2.2.2.2.2.1
theorem x_st (h : Inv B μ) (q : H7 μ.1 m) : ni 5 (m.1 7 0) := by
  rw [q 7 (by decide)]
  obtain ⟨-, ⟨st, hst, -, e, -⟩, -⟩ := h
  rw [e]
  exact ni_nI (by omega) (by omega)
theorem x_ty (h : Inv B μ) (q : H7 μ.1 m) : ni 61 (m.1 7 1) := by
  rw [q 7 (by decide)]
  obtain ⟨-, -, ⟨L, hL, -, e⟩, -⟩ := h
  rw [e]
  exact ni_nI (by omega) (by omega)
end XM
section LW
variable {p : Program} {l : Launch} {e : Env} {s : State} {m : MethodId} {below : List Frame} {meth : Method} {c : Code} {H : Heap} {locs : List Loc} {Q : State → Prop} {cells slots : Nat}
variable {ls : Array Slot} {E : En} {μ : Mu} {b L B : Nat} {xs : Nat → Int32} {x3 : Int32} {rest : List Value} {pc : Nat}
abbrev lvL (E : En) (b : Nat) (x3 : Int32) : List (Nat × Value) := [(0, .ref b), (1, .ref (E.1 231)), (2, .ref (E.1 232)), (3, .int x3)]
theorem pushA (hf : CallFix p m c code 4 s #[Value.ref b] wsL_law RL) (hl : lv_has ls 4 (lvL E b x3)) (hw : Wk E μ s H locs) (hX : va_X b L xs s s.heap) (hbl : b < s.heap.size) (hbA : ¬ inE E b) {n : Int} {v : Int32} (hv : Int32.ofInt n = v) (hin : vp_in (x3 + v) L) (d0 : decode code pc = .ok (.aload_n 0, 1)) (d1 : decode code (pc + 1) = .ok (.iload_n 3, 1)) (d2 : decode code (pc + 1 + 1) = .ok (.iconst n, 1)) (d3 : decode code (pc + 1 + 1 + 1) = .ok (.iadd, 1)) (d4 : decode code (pc + 1 + 1 + 1 + 1) = .ok (.iaload, 1))
    (kk : W p l e room_1 s m #[Value.ref b] below meth c H locs cells slots Q (F0 m (pc + 1 + 1 + 1 + 1 + 1) ls (.int (xs (x3 + v).toNatClampNeg) :: rest))) : W p l e room_1 s m #[Value.ref b] below meth c H locs cells slots Q (F0 m pc ls rest) := by
  refine lv_aload_n hf.1 hf.2.1 d0 rfl (lv_at hl 0 rfl) ?_
  refine lv_iload_n hf.1 hf.2.1 d1 rfl (lv_at hl 3 rfl) ?_
  refine lv_iconst (v := v) hf.1 hf.2.1 d2 hv ?_
  refine lv_iadd hf.1 hf.2.1 d3 ?_
  exact va_sld hf.1 hf.2.1 hX hbl hbA hw.2.2.2.1 hin d4 kk
set_option maxHeartbeats 4000000 in
set_option maxRecDepth 100000 in
theorem lc_0 (hf : CallFix p m c code 4 s #[Value.ref b] wsL_law RL) (hl : lv_has ls 4 (lvL E b x3)) (hw : Wk E μ s H locs) (hX : va_X b L xs s s.heap) (hbl : b < s.heap.size) (hbA : ¬ inE E b) (hi : ∀ k, k < 5 → vp_in (x3 + nI k) L) (h : Inv B μ) (hB : B + 61 < 2 ^ 30) (kk : ∀ (H : Heap) (locs : List Loc) (μ : Mu), Wk E μ s H locs → Inv (B + 61) μ → W p l e room_1 s m #[Value.ref b] below meth c H locs 240 3758 Q (F0 m 1162 ls [])) : W p l e room_1 s m #[Value.ref b] below meth c H locs 240 3758 Q (F0 m 176 ls []) := by
  have e7 := st_table h 
  have q7 : H7 μ.1 (sp_X7_table μ ).2 := h7_X7_table μ  (fun c hc => rec_7 h hc) (fun _ _ => rfl)
  refine lv_aload_n hf.1 hf.2.1 dL_law_176 rfl (lv_at hl 1 rfl) ?_
  refine c_i hw (run_V (As := []) (rest := []) (np := 0) hf hw (k_X7_table l E _  (inv_K h)) ⟨gl_V q98 q99 q100 q2 q101, by decide +kernel⟩ ⟨rfl, rfl, Nat.le_of_ble_eq_true rfl, Nat.le_of_ble_eq_true rfl⟩ (by decide) (c_O E _) rfl rfl hl.1 rfl (Nat.le_of_ble_eq_true rfl) dL_law_177 ⟨Nat.le_of_ble_eq_true rfl, Nat.le_of_ble_eq_true rfl⟩) (fun H locs hw => ?_)
  generalize (sp_X7_table μ ) = a at *
  refine lv_aload_n hf.1 hf.2.1 dL_law_180 rfl (lv_at hl 2 rfl) ?_
  refine c_i hw (run_V (As := []) (rest := [.int a.1]) (np := 0) hf hw (k_X8_table l E _  (x_RI h q7) (x_st h q7)) ⟨gl_V q141 q142 q143 q5 q144, by decide +kernel⟩ ⟨rfl, rfl, Nat.le_of_ble_eq_true rfl, Nat.le_of_ble_eq_true rfl⟩ (by decide) (c_R E _) rfl rfl hl.1 rfl (Nat.le_of_ble_eq_true rfl) dL_law_181 ⟨Nat.le_of_ble_eq_true rfl, Nat.le_of_ble_eq_true rfl⟩) (fun H locs hw => ?_)
  refine lv_icmp_eq (tgt := 1162) hf.1 hf.2.1 dL_law_184 (by decide) (fun _ => ?_) (fun cc => absurd e7.1 cc)
  exact kk _ _ _ hw (inv_mono e7.2 (by omega))
set_option maxHeartbeats 4000000 in
set_option maxRecDepth 100000 in
theorem lc_1 (hf : CallFix p m c code 4 s #[Value.ref b] wsL_law RL) (hl : lv_has ls 4 (lvL E b x3)) (hw : Wk E μ s H locs) (hX : va_X b L xs s s.heap) (hbl : b < s.heap.size) (hbA : ¬ inE E b) (hi : ∀ k, k < 5 → vp_in (x3 + nI k) L) (h : Inv B μ) (hB : B + 61 < 2 ^ 30) (kk : ∀ (H : Heap) (locs : List Loc) (μ : Mu), Wk E μ s H locs → Inv (B + 61) μ → W p l e room_1 s m #[Value.ref b] below meth c H locs 240 3758 Q (F0 m 1162 ls [])) : W p l e room_1 s m #[Value.ref b] below meth c H locs 240 3758 Q (F0 m 189 ls []) := by
  have e7 := st_node h (xs (x3 + 1).toNatClampNeg) (xs (x3 + 2).toNatClampNeg) (xs (x3 + 3).toNatClampNeg)
  have q7 : H7 μ.1 (sp_X7_node μ (xs (x3 + 1).toNatClampNeg) (xs (x3 + 2).toNatClampNeg) (xs (x3 + 3).toNatClampNeg)).2 := h7_X7_node μ (xs (x3 + 1).toNatClampNeg) (xs (x3 + 2).toNatClampNeg) (xs (x3 + 3).toNatClampNeg) (fun c hc => rec_7 h hc) (fun _ _ => rfl)
  refine lv_aload_n hf.1 hf.2.1 dL_law_189 rfl (lv_at hl 1 rfl) ?_
  refine pushA hf hl hw hX hbl hbA (v := 1) (by decide) (hi 1 (by decide)) dL_law_190 dL_law_191 dL_law_192 dL_law_193 dL_law_194 ?_
  refine pushA hf hl hw hX hbl hbA (v := 2) (by decide) (hi 2 (by decide)) dL_law_195 dL_law_196 dL_law_197 dL_law_198 dL_law_199 ?_
  refine pushA hf hl hw hX hbl hbA (v := 3) (by decide) (hi 3 (by decide)) dL_law_200 dL_law_201 dL_law_202 dL_law_203 dL_law_204 ?_
  refine c_i hw (run_V (As := [.int (xs (x3 + 1).toNatClampNeg), .int (xs (x3 + 2).toNatClampNeg), .int (xs (x3 + 3).toNatClampNeg)]) (rest := []) (np := 3) hf hw (k_X7_node l E _ (xs (x3 + 1).toNatClampNeg) (xs (x3 + 2).toNatClampNeg) (xs (x3 + 3).toNatClampNeg) (inv_K h)) ⟨gl_V q156 q157 q158 q2 q159, by decide +kernel⟩ ⟨rfl, rfl, Nat.le_of_ble_eq_true rfl, Nat.le_of_ble_eq_true rfl⟩ (by decide) (c_O E _) rfl rfl hl.1 rfl (Nat.le_of_ble_eq_true rfl) dL_law_205 ⟨Nat.le_of_ble_eq_true rfl, Nat.le_of_ble_eq_true rfl⟩) (fun H locs hw => ?_)
  generalize (sp_X7_node μ (xs (x3 + 1).toNatClampNeg) (xs (x3 + 2).toNatClampNeg) (xs (x3 + 3).toNatClampNeg)) = a at *
  refine lv_aload_n hf.1 hf.2.1 dL_law_208 rfl (lv_at hl 2 rfl) ?_
  refine pushA hf hl hw hX hbl hbA (v := 1) (by decide) (hi 1 (by decide)) dL_law_209 dL_law_210 dL_law_211 dL_law_212 dL_law_213 ?_
  refine pushA hf hl hw hX hbl hbA (v := 2) (by decide) (hi 2 (by decide)) dL_law_214 dL_law_215 dL_law_216 dL_law_217 dL_law_218 ?_
  refine pushA hf hl hw hX hbl hbA (v := 3) (by decide) (hi 3 (by decide)) dL_law_219 dL_law_220 dL_law_221 dL_law_222 dL_law_223 ?_
  refine c_i hw (run_V (As := [.int (xs (x3 + 1).toNatClampNeg), .int (xs (x3 + 2).toNatClampNeg), .int (xs (x3 + 3).toNatClampNeg)]) (rest := [.int a.1]) (np := 3) hf hw (k_X8_node l E _ (xs (x3 + 1).toNatClampNeg) (xs (x3 + 2).toNatClampNeg) (xs (x3 + 3).toNatClampNeg) (x_RI h q7) (x_st h q7)) ⟨gl_V q197 q198 q199 q5 q200, by decide +kernel⟩ ⟨rfl, rfl, Nat.le_of_ble_eq_true rfl, Nat.le_of_ble_eq_true rfl⟩ (by decide) (c_R E _) rfl rfl hl.1 rfl (Nat.le_of_ble_eq_true rfl) dL_law_224 ⟨Nat.le_of_ble_eq_true rfl, Nat.le_of_ble_eq_true rfl⟩) (fun H locs hw => ?_)
  refine lv_icmp_eq (tgt := 1162) hf.1 hf.2.1 dL_law_227 (by decide) (fun _ => ?_) (fun cc => absurd e7.1 cc)
  exact kk _ _ _ hw (inv_mono e7.2 (by omega))
set_option maxHeartbeats 4000000 in
set_option maxRecDepth 100000 in
theorem lc_2 (hf : CallFix p m c code 4 s #[Value.ref b] wsL_law RL) (hl : lv_has ls 4 (lvL E b x3)) (hw : Wk E μ s H locs) (hX : va_X b L xs s s.heap) (hbl : b < s.heap.size) (hbA : ¬ inE E b) (hi : ∀ k, k < 5 → vp_in (x3 + nI k) L) (h : Inv B μ) (hB : B + 61 < 2 ^ 30) (kk : ∀ (H : Heap) (locs : List Loc) (μ : Mu), Wk E μ s H locs → Inv (B + 61) μ → W p l e room_1 s m #[Value.ref b] below meth c H locs 240 3758 Q (F0 m 1162 ls [])) : W p l e room_1 s m #[Value.ref b] below meth c H locs 240 3758 Q (F0 m 232 ls []) := by
  have e7 := st_nodeAt h (xs (x3 + 1).toNatClampNeg) (xs (x3 + 2).toNatClampNeg) (xs (x3 + 3).toNatClampNeg)
  have q7 : H7 μ.1 μ := fun _ _ => rfl
  refine lv_aload_n hf.1 hf.2.1 dL_law_232 rfl (lv_at hl 1 rfl) ?_
  refine pushA hf hl hw hX hbl hbA (v := 1) (by decide) (hi 1 (by decide)) dL_law_233 dL_law_234 dL_law_235 dL_law_236 dL_law_237 ?_
  refine pushA hf hl hw hX hbl hbA (v := 2) (by decide) (hi 2 (by decide)) dL_law_238 dL_law_239 dL_law_240 dL_law_241 dL_law_242 ?_
  refine pushA hf hl hw hX hbl hbA (v := 3) (by decide) (hi 3 (by decide)) dL_law_243 dL_law_244 dL_law_245 dL_law_246 dL_law_247 ?_
  refine c_iR hw (run_V (As := [.int (xs (x3 + 1).toNatClampNeg), .int (xs (x3 + 2).toNatClampNeg), .int (xs (x3 + 3).toNatClampNeg)]) (rest := []) (np := 3) hf hw (k_X7_nodeAt l E _ (xs (x3 + 1).toNatClampNeg) (xs (x3 + 2).toNatClampNeg) (xs (x3 + 3).toNatClampNeg) ) ⟨gl_V q231 q232 q233 q2 q234, by decide +kernel⟩ ⟨rfl, rfl, Nat.le_of_ble_eq_true rfl, Nat.le_of_ble_eq_true rfl⟩ (by decide) (c_O E _) rfl rfl hl.1 rfl (Nat.le_of_ble_eq_true rfl) dL_law_248 ⟨Nat.le_of_ble_eq_true rfl, Nat.le_of_ble_eq_true rfl⟩) (fun H locs hw => ?_)
  refine lv_aload_n hf.1 hf.2.1 dL_law_251 rfl (lv_at hl 2 rfl) ?_
  refine pushA hf hl hw hX hbl hbA (v := 1) (by decide) (hi 1 (by decide)) dL_law_252 dL_law_253 dL_law_254 dL_law_255 dL_law_256 ?_
  refine pushA hf hl hw hX hbl hbA (v := 2) (by decide) (hi 2 (by decide)) dL_law_257 dL_law_258 dL_law_259 dL_law_260 dL_law_261 ?_
  refine pushA hf hl hw hX hbl hbA (v := 3) (by decide) (hi 3 (by decide)) dL_law_262 dL_law_263 dL_law_264 dL_law_265 dL_law_266 ?_
  refine c_iR hw (run_V (As := [.int (xs (x3 + 1).toNatClampNeg), .int (xs (x3 + 2).toNatClampNeg), .int (xs (x3 + 3).toNatClampNeg)]) (rest := [.int (sp_X7_nodeAt (μ.1 0) (xs (x3 + 1).toNatClampNeg) (xs (x3 + 2).toNatClampNeg) (xs (x3 + 3).toNatClampNeg))]) (np := 3) hf hw (k_X8_nodeAt l E _ (xs (x3 + 1).toNatClampNeg) (xs (x3 + 2).toNatClampNeg) (xs (x3 + 3).toNatClampNeg) (x_RI h q7)) ⟨gl_V q238 q239 q240 q5 q241, by decide +kernel⟩ ⟨rfl, rfl, Nat.le_of_ble_eq_true rfl, Nat.le_of_ble_eq_true rfl⟩ (by decide) (c_R E _) rfl rfl hl.1 rfl (Nat.le_of_ble_eq_true rfl) dL_law_267 ⟨Nat.le_of_ble_eq_true rfl, Nat.le_of_ble_eq_true rfl⟩) (fun H locs hw => ?_)
  refine lv_icmp_eq (tgt := 1162) hf.1 hf.2.1 dL_law_270 (by decide) (fun _ => ?_) (fun cc => absurd e7.1 cc)
  exact kk _ _ _ hw (inv_mono e7.2 (by omega))
set_option maxHeartbeats 4000000 in
set_option maxRecDepth 100000 in
theorem lc_3 (hf : CallFix p m c code 4 s #[Value.ref b] wsL_law RL) (hl : lv_has ls 4 (lvL E b x3)) (hw : Wk E μ s H locs) (hX : va_X b L xs s s.heap) (hbl : b < s.heap.size) (hbA : ¬ inE E b) (hi : ∀ k, k < 5 → vp_in (x3 + nI k) L) (h : Inv B μ) (hB : B + 61 < 2 ^ 30) (kk : ∀ (H : Heap) (locs : List Loc) (μ : Mu), Wk E μ s H locs → Inv (B + 61) μ → W p l e room_1 s m #[Value.ref b] below meth c H locs 240 3758 Q (F0 m 1162 ls [])) : W p l e room_1 s m #[Value.ref b] below meth c H locs 240 3758 Q (F0 m 275 ls []) := by
  have e7 := st_ratio h (xs (x3 + 1).toNatClampNeg) (xs (x3 + 2).toNatClampNeg)
  have q7 : H7 μ.1 μ := fun _ _ => rfl
  refine lv_aload_n hf.1 hf.2.1 dL_law_275 rfl (lv_at hl 1 rfl) ?_
  refine pushA hf hl hw hX hbl hbA (v := 1) (by decide) (hi 1 (by decide)) dL_law_276 dL_law_277 dL_law_278 dL_law_279 dL_law_280 ?_
  refine pushA hf hl hw hX hbl hbA (v := 2) (by decide) (hi 2 (by decide)) dL_law_281 dL_law_282 dL_law_283 dL_law_284 dL_law_285 ?_
  refine c_iR hw (run_V (As := [.int (xs (x3 + 1).toNatClampNeg), .int (xs (x3 + 2).toNatClampNeg)]) (rest := []) (np := 2) hf hw (k_X7_ratio l E _ (xs (x3 + 1).toNatClampNeg) (xs (x3 + 2).toNatClampNeg) ) ⟨gl_V q243 q244 q245 q2 q246, by decide +kernel⟩ ⟨rfl, rfl, Nat.le_of_ble_eq_true rfl, Nat.le_of_ble_eq_true rfl⟩ (by decide) (c_O E _) rfl rfl hl.1 rfl (Nat.le_of_ble_eq_true rfl) dL_law_286 ⟨Nat.le_of_ble_eq_true rfl, Nat.le_of_ble_eq_true rfl⟩) (fun H locs hw => ?_)
  refine lv_aload_n hf.1 hf.2.1 dL_law_289 rfl (lv_at hl 2 rfl) ?_
  refine pushA hf hl hw hX hbl hbA (v := 1) (by decide) (hi 1 (by decide)) dL_law_290 dL_law_291 dL_law_292 dL_law_293 dL_law_294 ?_
  refine pushA hf hl hw hX hbl hbA (v := 2) (by decide) (hi 2 (by decide)) dL_law_295 dL_law_296 dL_law_297 dL_law_298 dL_law_299 ?_
  refine c_iR hw (run_V (As := [.int (xs (x3 + 1).toNatClampNeg), .int (xs (x3 + 2).toNatClampNeg)]) (rest := [.int (sp_X7_ratio (μ.1 0) (xs (x3 + 1).toNatClampNeg) (xs (x3 + 2).toNatClampNeg))]) (np := 2) hf hw (k_X8_ratio l E _ (xs (x3 + 1).toNatClampNeg) (xs (x3 + 2).toNatClampNeg) (x_RI h q7) (x_T h q7)) ⟨gl_V q255 q256 q257 q5 q258, by decide +kernel⟩ ⟨rfl, rfl, Nat.le_of_ble_eq_true rfl, Nat.le_of_ble_eq_true rfl⟩ (by decide) (c_R E _) rfl rfl hl.1 rfl (Nat.le_of_ble_eq_true rfl) dL_law_300 ⟨Nat.le_of_ble_eq_true rfl, Nat.le_of_ble_eq_true rfl⟩) (fun H locs hw => ?_)
  refine lv_icmp_eq (tgt := 1162) hf.1 hf.2.1 dL_law_303 (by decide) (fun _ => ?_) (fun cc => absurd e7.1 cc)
  exact kk _ _ _ hw (inv_mono e7.2 (by omega))
set_option maxHeartbeats 4000000 in
set_option maxRecDepth 100000 in
theorem lc_4 (hf : CallFix p m c code 4 s #[Value.ref b] wsL_law RL) (hl : lv_has ls 4 (lvL E b x3)) (hw : Wk E μ s H locs) (hX : va_X b L xs s s.heap) (hbl : b < s.heap.size) (hbA : ¬ inE E b) (hi : ∀ k, k < 5 → vp_in (x3 + nI k) L) (h : Inv B μ) (hB : B + 61 < 2 ^ 30) (kk : ∀ (H : Heap) (locs : List Loc) (μ : Mu), Wk E μ s H locs → Inv (B + 61) μ → W p l e room_1 s m #[Value.ref b] below meth c H locs 240 3758 Q (F0 m 1162 ls [])) : W p l e room_1 s m #[Value.ref b] below meth c H locs 240 3758 Q (F0 m 308 ls []) := by
  have e7 := st_inverse h (xs (x3 + 1).toNatClampNeg) (xs (x3 + 2).toNatClampNeg)
  have q7 : H7 μ.1 μ := fun _ _ => rfl
  refine lv_aload_n hf.1 hf.2.1 dL_law_308 rfl (lv_at hl 1 rfl) ?_
  refine pushA hf hl hw hX hbl hbA (v := 1) (by decide) (hi 1 (by decide)) dL_law_309 dL_law_310 dL_law_311 dL_law_312 dL_law_313 ?_
  refine pushA hf hl hw hX hbl hbA (v := 2) (by decide) (hi 2 (by decide)) dL_law_314 dL_law_315 dL_law_316 dL_law_317 dL_law_318 ?_
  refine c_iR hw (run_V (As := [.int (xs (x3 + 1).toNatClampNeg), .int (xs (x3 + 2).toNatClampNeg)]) (rest := []) (np := 2) hf hw (k_X7_inverse l E _ (xs (x3 + 1).toNatClampNeg) (xs (x3 + 2).toNatClampNeg) ) ⟨gl_V q275 q276 q277 q2 q278, by decide +kernel⟩ ⟨rfl, rfl, Nat.le_of_ble_eq_true rfl, Nat.le_of_ble_eq_true rfl⟩ (by decide) (c_O E _) rfl rfl hl.1 rfl (Nat.le_of_ble_eq_true rfl) dL_law_319 ⟨Nat.le_of_ble_eq_true rfl, Nat.le_of_ble_eq_true rfl⟩) (fun H locs hw => ?_)
  refine lv_aload_n hf.1 hf.2.1 dL_law_322 rfl (lv_at hl 2 rfl) ?_
  refine pushA hf hl hw hX hbl hbA (v := 1) (by decide) (hi 1 (by decide)) dL_law_323 dL_law_324 dL_law_325 dL_law_326 dL_law_327 ?_
  refine pushA hf hl hw hX hbl hbA (v := 2) (by decide) (hi 2 (by decide)) dL_law_328 dL_law_329 dL_law_330 dL_law_331 dL_law_332 ?_
  refine c_iR hw (run_V (As := [.int (xs (x3 + 1).toNatClampNeg), .int (xs (x3 + 2).toNatClampNeg)]) (rest := [.int (sp_X7_inverse (μ.1 0) (xs (x3 + 1).toNatClampNeg) (xs (x3 + 2).toNatClampNeg))]) (np := 2) hf hw (k_X8_inverse l E _ (xs (x3 + 1).toNatClampNeg) (xs (x3 + 2).toNatClampNeg) (x_RI h q7) (x_T h q7)) ⟨gl_V q285 q286 q287 q5 q288, by decide +kernel⟩ ⟨rfl, rfl, Nat.le_of_ble_eq_true rfl, Nat.le_of_ble_eq_true rfl⟩ (by decide) (c_R E _) rfl rfl hl.1 rfl (Nat.le_of_ble_eq_true rfl) dL_law_333 ⟨Nat.le_of_ble_eq_true rfl, Nat.le_of_ble_eq_true rfl⟩) (fun H locs hw => ?_)
  refine lv_icmp_eq (tgt := 1162) hf.1 hf.2.1 dL_law_336 (by decide) (fun _ => ?_) (fun cc => absurd e7.1 cc)
  exact kk _ _ _ hw (inv_mono e7.2 (by omega))
set_option maxHeartbeats 4000000 in
set_option maxRecDepth 100000 in
theorem lc_5 (hf : CallFix p m c code 4 s #[Value.ref b] wsL_law RL) (hl : lv_has ls 4 (lvL E b x3)) (hw : Wk E μ s H locs) (hX : va_X b L xs s s.heap) (hbl : b < s.heap.size) (hbA : ¬ inE E b) (hi : ∀ k, k < 5 → vp_in (x3 + nI k) L) (h : Inv B μ) (hB : B + 61 < 2 ^ 30) (kk : ∀ (H : Heap) (locs : List Loc) (μ : Mu), Wk E μ s H locs → Inv (B + 61) μ → W p l e room_1 s m #[Value.ref b] below meth c H locs 240 3758 Q (F0 m 1162 ls [])) : W p l e room_1 s m #[Value.ref b] below meth c H locs 240 3758 Q (F0 m 341 ls []) := by
  have e7 := st_sensor h (xs (x3 + 1).toNatClampNeg) (xs (x3 + 2).toNatClampNeg) (xs (x3 + 3).toNatClampNeg)
  have q7 : H7 μ.1 (sp_X7_sensor μ (xs (x3 + 1).toNatClampNeg) (xs (x3 + 2).toNatClampNeg) (xs (x3 + 3).toNatClampNeg)).2 := h7_X7_sensor μ (xs (x3 + 1).toNatClampNeg) (xs (x3 + 2).toNatClampNeg) (xs (x3 + 3).toNatClampNeg) (fun c hc => rec_7 h hc) (fun _ _ => rfl)
  refine lv_aload_n hf.1 hf.2.1 dL_law_341 rfl (lv_at hl 1 rfl) ?_
  refine pushA hf hl hw hX hbl hbA (v := 1) (by decide) (hi 1 (by decide)) dL_law_342 dL_law_343 dL_law_344 dL_law_345 dL_law_346 ?_
  refine pushA hf hl hw hX hbl hbA (v := 2) (by decide) (hi 2 (by decide)) dL_law_347 dL_law_348 dL_law_349 dL_law_350 dL_law_351 ?_
  refine pushA hf hl hw hX hbl hbA (v := 3) (by decide) (hi 3 (by decide)) dL_law_352 dL_law_353 dL_law_354 dL_law_355 dL_law_356 ?_
  refine c_i hw (run_V (As := [.int (xs (x3 + 1).toNatClampNeg), .int (xs (x3 + 2).toNatClampNeg), .int (xs (x3 + 3).toNatClampNeg)]) (rest := []) (np := 3) hf hw (k_X7_sensor l E _ (xs (x3 + 1).toNatClampNeg) (xs (x3 + 2).toNatClampNeg) (xs (x3 + 3).toNatClampNeg) (inv_K h)) ⟨gl_V q293 q294 q295 q2 q296, by decide +kernel⟩ ⟨rfl, rfl, Nat.le_of_ble_eq_true rfl, Nat.le_of_ble_eq_true rfl⟩ (by decide) (c_O E _) rfl rfl hl.1 rfl (Nat.le_of_ble_eq_true rfl) dL_law_357 ⟨Nat.le_of_ble_eq_true rfl, Nat.le_of_ble_eq_true rfl⟩) (fun H locs hw => ?_)
  generalize (sp_X7_sensor μ (xs (x3 + 1).toNatClampNeg) (xs (x3 + 2).toNatClampNeg) (xs (x3 + 3).toNatClampNeg)) = a at *
  refine lv_aload_n hf.1 hf.2.1 dL_law_360 rfl (lv_at hl 2 rfl) ?_
  refine pushA hf hl hw hX hbl hbA (v := 1) (by decide) (hi 1 (by decide)) dL_law_361 dL_law_362 dL_law_363 dL_law_364 dL_law_365 ?_
  refine pushA hf hl hw hX hbl hbA (v := 2) (by decide) (hi 2 (by decide)) dL_law_366 dL_law_367 dL_law_368 dL_law_369 dL_law_370 ?_
  refine pushA hf hl hw hX hbl hbA (v := 3) (by decide) (hi 3 (by decide)) dL_law_371 dL_law_372 dL_law_373 dL_law_374 dL_law_375 ?_
  refine c_i hw (run_V (As := [.int (xs (x3 + 1).toNatClampNeg), .int (xs (x3 + 2).toNatClampNeg), .int (xs (x3 + 3).toNatClampNeg)]) (rest := [.int a.1]) (np := 3) hf hw (k_X8_sensor l E _ (xs (x3 + 1).toNatClampNeg) (xs (x3 + 2).toNatClampNeg) (xs (x3 + 3).toNatClampNeg) (x_RI h q7) (x_st h q7)) ⟨gl_V q330 q331 q332 q5 q333, by decide +kernel⟩ ⟨rfl, rfl, Nat.le_of_ble_eq_true rfl, Nat.le_of_ble_eq_true rfl⟩ (by decide) (c_R E _) rfl rfl hl.1 rfl (Nat.le_of_ble_eq_true rfl) dL_law_376 ⟨Nat.le_of_ble_eq_true rfl, Nat.le_of_ble_eq_true rfl⟩) (fun H locs hw => ?_)
  refine lv_icmp_eq (tgt := 1162) hf.1 hf.2.1 dL_law_379 (by decide) (fun _ => ?_) (fun cc => absurd e7.1 cc)
  exact kk _ _ _ hw (inv_mono e7.2 (by omega))
set_option maxHeartbeats 4000000 in
set_option maxRecDepth 100000 in
theorem lc_6 (hf : CallFix p m c code 4 s #[Value.ref b] wsL_law RL) (hl : lv_has ls 4 (lvL E b x3)) (hw : Wk E μ s H locs) (hX : va_X b L xs s s.heap) (hbl : b < s.heap.size) (hbA : ¬ inE E b) (hi : ∀ k, k < 5 → vp_in (x3 + nI k) L) (h : Inv B μ) (hB : B + 61 < 2 ^ 30) (kk : ∀ (H : Heap) (locs : List Loc) (μ : Mu), Wk E μ s H locs → Inv (B + 61) μ → W p l e room_1 s m #[Value.ref b] below meth c H locs 240 3758 Q (F0 m 1162 ls [])) : W p l e room_1 s m #[Value.ref b] below meth c H locs 240 3758 Q (F0 m 384 ls []) := by
  have e7 := st_plug h (xs (x3 + 1).toNatClampNeg) (xs (x3 + 2).toNatClampNeg) (xs (x3 + 3).toNatClampNeg)
  have q7 : H7 μ.1 (sp_X7_plug μ (xs (x3 + 1).toNatClampNeg) (xs (x3 + 2).toNatClampNeg) (xs (x3 + 3).toNatClampNeg)).2 := h7_X7_plug μ (xs (x3 + 1).toNatClampNeg) (xs (x3 + 2).toNatClampNeg) (xs (x3 + 3).toNatClampNeg) (fun c hc => rec_7 h hc) (fun _ _ => rfl)
  refine lv_aload_n hf.1 hf.2.1 dL_law_384 rfl (lv_at hl 1 rfl) ?_
  refine pushA hf hl hw hX hbl hbA (v := 1) (by decide) (hi 1 (by decide)) dL_law_385 dL_law_386 dL_law_387 dL_law_388 dL_law_389 ?_
  refine pushA hf hl hw hX hbl hbA (v := 2) (by decide) (hi 2 (by decide)) dL_law_390 dL_law_391 dL_law_392 dL_law_393 dL_law_394 ?_
  refine pushA hf hl hw hX hbl hbA (v := 3) (by decide) (hi 3 (by decide)) dL_law_395 dL_law_396 dL_law_397 dL_law_398 dL_law_399 ?_
  refine c_i hw (run_V (As := [.int (xs (x3 + 1).toNatClampNeg), .int (xs (x3 + 2).toNatClampNeg), .int (xs (x3 + 3).toNatClampNeg)]) (rest := []) (np := 3) hf hw (k_X7_plug l E _ (xs (x3 + 1).toNatClampNeg) (xs (x3 + 2).toNatClampNeg) (xs (x3 + 3).toNatClampNeg) (inv_K h)) ⟨gl_V q339 q340 q341 q2 q342, by decide +kernel⟩ ⟨rfl, rfl, Nat.le_of_ble_eq_true rfl, Nat.le_of_ble_eq_true rfl⟩ (by decide) (c_O E _) rfl rfl hl.1 rfl (Nat.le_of_ble_eq_true rfl) dL_law_400 ⟨Nat.le_of_ble_eq_true rfl, Nat.le_of_ble_eq_true rfl⟩) (fun H locs hw => ?_)
  generalize (sp_X7_plug μ (xs (x3 + 1).toNatClampNeg) (xs (x3 + 2).toNatClampNeg) (xs (x3 + 3).toNatClampNeg)) = a at *
  refine lv_aload_n hf.1 hf.2.1 dL_law_403 rfl (lv_at hl 2 rfl) ?_
  refine pushA hf hl hw hX hbl hbA (v := 1) (by decide) (hi 1 (by decide)) dL_law_404 dL_law_405 dL_law_406 dL_law_407 dL_law_408 ?_
  refine pushA hf hl hw hX hbl hbA (v := 2) (by decide) (hi 2 (by decide)) dL_law_409 dL_law_410 dL_law_411 dL_law_412 dL_law_413 ?_
  refine pushA hf hl hw hX hbl hbA (v := 3) (by decide) (hi 3 (by decide)) dL_law_414 dL_law_415 dL_law_416 dL_law_417 dL_law_418 ?_
  refine c_i hw (run_V (As := [.int (xs (x3 + 1).toNatClampNeg), .int (xs (x3 + 2).toNatClampNeg), .int (xs (x3 + 3).toNatClampNeg)]) (rest := [.int a.1]) (np := 3) hf hw (k_X8_plug l E _ (xs (x3 + 1).toNatClampNeg) (xs (x3 + 2).toNatClampNeg) (xs (x3 + 3).toNatClampNeg) (x_RI h q7) (x_st h q7)) ⟨gl_V q366 q367 q368 q5 q369, by decide +kernel⟩ ⟨rfl, rfl, Nat.le_of_ble_eq_true rfl, Nat.le_of_ble_eq_true rfl⟩ (by decide) (c_R E _) rfl rfl hl.1 rfl (Nat.le_of_ble_eq_true rfl) dL_law_419 ⟨Nat.le_of_ble_eq_true rfl, Nat.le_of_ble_eq_true rfl⟩) (fun H locs hw => ?_)
  refine lv_icmp_eq (tgt := 1162) hf.1 hf.2.1 dL_law_422 (by decide) (fun _ => ?_) (fun cc => absurd e7.1 cc)
  exact kk _ _ _ hw (inv_mono e7.2 (by omega))
set_option maxHeartbeats 4000000 in
set_option maxRecDepth 100000 in
theorem lc_7 (hf : CallFix p m c code 4 s #[Value.ref b] wsL_law RL) (hl : lv_has ls 4 (lvL E b x3)) (hw : Wk E μ s H locs) (hX : va_X b L xs s s.heap) (hbl : b < s.heap.size) (hbA : ¬ inE E b) (hi : ∀ k, k < 5 → vp_in (x3 + nI k) L) (h : Inv B μ) (hB : B + 61 < 2 ^ 30) (kk : ∀ (H : Heap) (locs : List Loc) (μ : Mu), Wk E μ s H locs → Inv (B + 61) μ → W p l e room_1 s m #[Value.ref b] below meth c H locs 240 3758 Q (F0 m 1162 ls [])) : W p l e room_1 s m #[Value.ref b] below meth c H locs 240 3758 Q (F0 m 427 ls []) := by
  have e7 := st_unplug h (xs (x3 + 1).toNatClampNeg)
  have q7 : H7 μ.1 (sp_X7_unplug μ (xs (x3 + 1).toNatClampNeg)).2 := h7_X7_unplug μ (xs (x3 + 1).toNatClampNeg) (fun c hc => rec_7 h hc) (fun _ _ => rfl)
  refine lv_aload_n hf.1 hf.2.1 dL_law_427 rfl (lv_at hl 1 rfl) ?_
  refine pushA hf hl hw hX hbl hbA (v := 1) (by decide) (hi 1 (by decide)) dL_law_428 dL_law_429 dL_law_430 dL_law_431 dL_law_432 ?_
  refine c_i hw (run_V (As := [.int (xs (x3 + 1).toNatClampNeg)]) (rest := []) (np := 1) hf hw (k_X7_unplug l E _ (xs (x3 + 1).toNatClampNeg) (inv_K h)) ⟨gl_V q378 q379 q380 q2 q381, by decide +kernel⟩ ⟨rfl, rfl, Nat.le_of_ble_eq_true rfl, Nat.le_of_ble_eq_true rfl⟩ (by decide) (c_O E _) rfl rfl hl.1 rfl (Nat.le_of_ble_eq_true rfl) dL_law_433 ⟨Nat.le_of_ble_eq_true rfl, Nat.le_of_ble_eq_true rfl⟩) (fun H locs hw => ?_)
  generalize (sp_X7_unplug μ (xs (x3 + 1).toNatClampNeg)) = a at *
  refine lv_aload_n hf.1 hf.2.1 dL_law_436 rfl (lv_at hl 2 rfl) ?_
  refine pushA hf hl hw hX hbl hbA (v := 1) (by decide) (hi 1 (by decide)) dL_law_437 dL_law_438 dL_law_439 dL_law_440 dL_law_441 ?_
  refine c_i hw (run_V (As := [.int (xs (x3 + 1).toNatClampNeg)]) (rest := [.int a.1]) (np := 1) hf hw (k_X8_unplug l E _ (xs (x3 + 1).toNatClampNeg) (x_RI h q7) (x_st h q7)) ⟨gl_V q385 q386 q387 q5 q388, by decide +kernel⟩ ⟨rfl, rfl, Nat.le_of_ble_eq_true rfl, Nat.le_of_ble_eq_true rfl⟩ (by decide) (c_R E _) rfl rfl hl.1 rfl (Nat.le_of_ble_eq_true rfl) dL_law_442 ⟨Nat.le_of_ble_eq_true rfl, Nat.le_of_ble_eq_true rfl⟩) (fun H locs hw => ?_)
  refine lv_icmp_eq (tgt := 1162) hf.1 hf.2.1 dL_law_445 (by decide) (fun _ => ?_) (fun cc => absurd e7.1 cc)
  exact kk _ _ _ hw (inv_mono e7.2 (by omega))
set_option maxHeartbeats 4000000 in
set_option maxRecDepth 100000 in
theorem lc_8 (hf : CallFix p m c code 4 s #[Value.ref b] wsL_law RL) (hl : lv_has ls 4 (lvL E b x3)) (hw : Wk E μ s H locs) (hX : va_X b L xs s s.heap) (hbl : b < s.heap.size) (hbA : ¬ inE E b) (hi : ∀ k, k < 5 → vp_in (x3 + nI k) L) (h : Inv B μ) (hB : B + 61 < 2 ^ 30) (kk : ∀ (H : Heap) (locs : List Loc) (μ : Mu), Wk E μ s H locs → Inv (B + 61) μ → W p l e room_1 s m #[Value.ref b] below meth c H locs 240 3758 Q (F0 m 1162 ls [])) : W p l e room_1 s m #[Value.ref b] below meth c H locs 240 3758 Q (F0 m 450 ls []) := by
  have e7 := st_slotAt h (xs (x3 + 1).toNatClampNeg) (xs (x3 + 2).toNatClampNeg)
  have q7 : H7 μ.1 μ := fun _ _ => rfl
  refine lv_aload_n hf.1 hf.2.1 dL_law_450 rfl (lv_at hl 1 rfl) ?_
  refine pushA hf hl hw hX hbl hbA (v := 1) (by decide) (hi 1 (by decide)) dL_law_451 dL_law_452 dL_law_453 dL_law_454 dL_law_455 ?_
  refine pushA hf hl hw hX hbl hbA (v := 2) (by decide) (hi 2 (by decide)) dL_law_456 dL_law_457 dL_law_458 dL_law_459 dL_law_460 ?_
  refine c_iR hw (run_V (As := [.int (xs (x3 + 1).toNatClampNeg), .int (xs (x3 + 2).toNatClampNeg)]) (rest := []) (np := 2) hf hw (k_X7_slotAt l E _ (xs (x3 + 1).toNatClampNeg) (xs (x3 + 2).toNatClampNeg) ) ⟨gl_V q389 q390 q391 q2 q392, by decide +kernel⟩ ⟨rfl, rfl, Nat.le_of_ble_eq_true rfl, Nat.le_of_ble_eq_true rfl⟩ (by decide) (c_O E _) rfl rfl hl.1 rfl (Nat.le_of_ble_eq_true rfl) dL_law_461 ⟨Nat.le_of_ble_eq_true rfl, Nat.le_of_ble_eq_true rfl⟩) (fun H locs hw => ?_)
  refine lv_aload_n hf.1 hf.2.1 dL_law_464 rfl (lv_at hl 2 rfl) ?_
  refine pushA hf hl hw hX hbl hbA (v := 1) (by decide) (hi 1 (by decide)) dL_law_465 dL_law_466 dL_law_467 dL_law_468 dL_law_469 ?_
  refine pushA hf hl hw hX hbl hbA (v := 2) (by decide) (hi 2 (by decide)) dL_law_470 dL_law_471 dL_law_472 dL_law_473 dL_law_474 ?_
  refine c_iR hw (run_V (As := [.int (xs (x3 + 1).toNatClampNeg), .int (xs (x3 + 2).toNatClampNeg)]) (rest := [.int (sp_X7_slotAt (μ.1 0) (xs (x3 + 1).toNatClampNeg) (xs (x3 + 2).toNatClampNeg))]) (np := 2) hf hw (k_X8_slotAt l E _ (xs (x3 + 1).toNatClampNeg) (xs (x3 + 2).toNatClampNeg) (x_RI h q7)) ⟨gl_V q393 q394 q395 q5 q396, by decide +kernel⟩ ⟨rfl, rfl, Nat.le_of_ble_eq_true rfl, Nat.le_of_ble_eq_true rfl⟩ (by decide) (c_R E _) rfl rfl hl.1 rfl (Nat.le_of_ble_eq_true rfl) dL_law_475 ⟨Nat.le_of_ble_eq_true rfl, Nat.le_of_ble_eq_true rfl⟩) (fun H locs hw => ?_)
  refine lv_icmp_eq (tgt := 1162) hf.1 hf.2.1 dL_law_478 (by decide) (fun _ => ?_) (fun cc => absurd e7.1 cc)
  exact kk _ _ _ hw (inv_mono e7.2 (by omega))
set_option maxHeartbeats 4000000 in
set_option maxRecDepth 100000 in
theorem lc_9 (hf : CallFix p m c code 4 s #[Value.ref b] wsL_law RL) (hl : lv_has ls 4 (lvL E b x3)) (hw : Wk E μ s H locs) (hX : va_X b L xs s s.heap) (hbl : b < s.heap.size) (hbA : ¬ inE E b) (hi : ∀ k, k < 5 → vp_in (x3 + nI k) L) (h : Inv B μ) (hB : B + 61 < 2 ^ 30) (kk : ∀ (H : Heap) (locs : List Loc) (μ : Mu), Wk E μ s H locs → Inv (B + 61) μ → W p l e room_1 s m #[Value.ref b] below meth c H locs 240 3758 Q (F0 m 1162 ls [])) : W p l e room_1 s m #[Value.ref b] below meth c H locs 240 3758 Q (F0 m 483 ls []) := by
  have e7 := st_bath h (xs (x3 + 1).toNatClampNeg) (xs (x3 + 2).toNatClampNeg)
  have q7 : H7 μ.1 (sp_X7_bath μ (xs (x3 + 1).toNatClampNeg) (xs (x3 + 2).toNatClampNeg)).2 := h7_X7_bath μ (xs (x3 + 1).toNatClampNeg) (xs (x3 + 2).toNatClampNeg) (fun c hc => rec_7 h hc) (fun _ _ => rfl)
  refine lv_aload_n hf.1 hf.2.1 dL_law_483 rfl (lv_at hl 1 rfl) ?_
  refine pushA hf hl hw hX hbl hbA (v := 1) (by decide) (hi 1 (by decide)) dL_law_484 dL_law_485 dL_law_486 dL_law_487 dL_law_488 ?_
  refine pushA hf hl hw hX hbl hbA (v := 2) (by decide) (hi 2 (by decide)) dL_law_489 dL_law_490 dL_law_491 dL_law_492 dL_law_493 ?_
  refine c_i hw (run_V (As := [.int (xs (x3 + 1).toNatClampNeg), .int (xs (x3 + 2).toNatClampNeg)]) (rest := []) (np := 2) hf hw (k_X7_bath l E _ (xs (x3 + 1).toNatClampNeg) (xs (x3 + 2).toNatClampNeg) (inv_K h)) ⟨gl_V q397 q398 q399 q2 q400, by decide +kernel⟩ ⟨rfl, rfl, Nat.le_of_ble_eq_true rfl, Nat.le_of_ble_eq_true rfl⟩ (by decide) (c_O E _) rfl rfl hl.1 rfl (Nat.le_of_ble_eq_true rfl) dL_law_494 ⟨Nat.le_of_ble_eq_true rfl, Nat.le_of_ble_eq_true rfl⟩) (fun H locs hw => ?_)
  generalize (sp_X7_bath μ (xs (x3 + 1).toNatClampNeg) (xs (x3 + 2).toNatClampNeg)) = a at *
  refine lv_aload_n hf.1 hf.2.1 dL_law_497 rfl (lv_at hl 2 rfl) ?_
  refine pushA hf hl hw hX hbl hbA (v := 1) (by decide) (hi 1 (by decide)) dL_law_498 dL_law_499 dL_law_500 dL_law_501 dL_law_502 ?_
  refine pushA hf hl hw hX hbl hbA (v := 2) (by decide) (hi 2 (by decide)) dL_law_503 dL_law_504 dL_law_505 dL_law_506 dL_law_507 ?_
  refine c_i hw (run_V (As := [.int (xs (x3 + 1).toNatClampNeg), .int (xs (x3 + 2).toNatClampNeg)]) (rest := [.int a.1]) (np := 2) hf hw (k_X8_bath l E _ (xs (x3 + 1).toNatClampNeg) (xs (x3 + 2).toNatClampNeg) (x_RI h q7) (x_st h q7)) ⟨gl_V q408 q409 q410 q5 q411, by decide +kernel⟩ ⟨rfl, rfl, Nat.le_of_ble_eq_true rfl, Nat.le_of_ble_eq_true rfl⟩ (by decide) (c_R E _) rfl rfl hl.1 rfl (Nat.le_of_ble_eq_true rfl) dL_law_508 ⟨Nat.le_of_ble_eq_true rfl, Nat.le_of_ble_eq_true rfl⟩) (fun H locs hw => ?_)
  refine lv_icmp_eq (tgt := 1162) hf.1 hf.2.1 dL_law_511 (by decide) (fun _ => ?_) (fun cc => absurd e7.1 cc)
  exact kk _ _ _ hw (inv_mono e7.2 (by omega))
set_option maxHeartbeats 4000000 in
set_option maxRecDepth 100000 in
theorem lc_10 (hf : CallFix p m c code 4 s #[Value.ref b] wsL_law RL) (hl : lv_has ls 4 (lvL E b x3)) (hw : Wk E μ s H locs) (hX : va_X b L xs s s.heap) (hbl : b < s.heap.size) (hbA : ¬ inE E b) (hi : ∀ k, k < 5 → vp_in (x3 + nI k) L) (h : Inv B μ) (hB : B + 61 < 2 ^ 30) (kk : ∀ (H : Heap) (locs : List Loc) (μ : Mu), Wk E μ s H locs → Inv (B + 61) μ → W p l e room_1 s m #[Value.ref b] below meth c H locs 240 3758 Q (F0 m 1162 ls [])) : W p l e room_1 s m #[Value.ref b] below meth c H locs 240 3758 Q (F0 m 516 ls []) := by
  have e7 := st_lead h (xs (x3 + 1).toNatClampNeg) (xs (x3 + 2).toNatClampNeg) (xs (x3 + 3).toNatClampNeg)
  have q7 : H7 μ.1 (sp_X7_lead μ (xs (x3 + 1).toNatClampNeg) (xs (x3 + 2).toNatClampNeg) (xs (x3 + 3).toNatClampNeg)).2 := h7_X7_lead μ (xs (x3 + 1).toNatClampNeg) (xs (x3 + 2).toNatClampNeg) (xs (x3 + 3).toNatClampNeg) (fun c hc => rec_7 h hc) (fun _ _ => rfl)
  refine lv_aload_n hf.1 hf.2.1 dL_law_516 rfl (lv_at hl 1 rfl) ?_
  refine pushA hf hl hw hX hbl hbA (v := 1) (by decide) (hi 1 (by decide)) dL_law_517 dL_law_518 dL_law_519 dL_law_520 dL_law_521 ?_
  refine pushA hf hl hw hX hbl hbA (v := 2) (by decide) (hi 2 (by decide)) dL_law_522 dL_law_523 dL_law_524 dL_law_525 dL_law_526 ?_
  refine pushA hf hl hw hX hbl hbA (v := 3) (by decide) (hi 3 (by decide)) dL_law_527 dL_law_528 dL_law_529 dL_law_530 dL_law_531 ?_
  refine c_i hw (run_V (As := [.int (xs (x3 + 1).toNatClampNeg), .int (xs (x3 + 2).toNatClampNeg), .int (xs (x3 + 3).toNatClampNeg)]) (rest := []) (np := 3) hf hw (k_X7_lead l E _ (xs (x3 + 1).toNatClampNeg) (xs (x3 + 2).toNatClampNeg) (xs (x3 + 3).toNatClampNeg) (inv_K h)) ⟨gl_V q416 q417 q418 q2 q419, by decide +kernel⟩ ⟨rfl, rfl, Nat.le_of_ble_eq_true rfl, Nat.le_of_ble_eq_true rfl⟩ (by decide) (c_O E _) rfl rfl hl.1 rfl (Nat.le_of_ble_eq_true rfl) dL_law_532 ⟨Nat.le_of_ble_eq_true rfl, Nat.le_of_ble_eq_true rfl⟩) (fun H locs hw => ?_)
  generalize (sp_X7_lead μ (xs (x3 + 1).toNatClampNeg) (xs (x3 + 2).toNatClampNeg) (xs (x3 + 3).toNatClampNeg)) = a at *
  refine lv_aload_n hf.1 hf.2.1 dL_law_535 rfl (lv_at hl 2 rfl) ?_
  refine pushA hf hl hw hX hbl hbA (v := 1) (by decide) (hi 1 (by decide)) dL_law_536 dL_law_537 dL_law_538 dL_law_539 dL_law_540 ?_
  refine pushA hf hl hw hX hbl hbA (v := 2) (by decide) (hi 2 (by decide)) dL_law_541 dL_law_542 dL_law_543 dL_law_544 dL_law_545 ?_
  refine pushA hf hl hw hX hbl hbA (v := 3) (by decide) (hi 3 (by decide)) dL_law_546 dL_law_547 dL_law_548 dL_law_549 dL_law_550 ?_
  refine c_i hw (run_V (As := [.int (xs (x3 + 1).toNatClampNeg), .int (xs (x3 + 2).toNatClampNeg), .int (xs (x3 + 3).toNatClampNeg)]) (rest := [.int a.1]) (np := 3) hf hw (k_X8_lead l E _ (xs (x3 + 1).toNatClampNeg) (xs (x3 + 2).toNatClampNeg) (xs (x3 + 3).toNatClampNeg) (x_RI h q7) (x_st h q7)) ⟨gl_V q433 q434 q435 q5 q436, by decide +kernel⟩ ⟨rfl, rfl, Nat.le_of_ble_eq_true rfl, Nat.le_of_ble_eq_true rfl⟩ (by decide) (c_R E _) rfl rfl hl.1 rfl (Nat.le_of_ble_eq_true rfl) dL_law_551 ⟨Nat.le_of_ble_eq_true rfl, Nat.le_of_ble_eq_true rfl⟩) (fun H locs hw => ?_)
  refine lv_icmp_eq (tgt := 1162) hf.1 hf.2.1 dL_law_554 (by decide) (fun _ => ?_) (fun cc => absurd e7.1 cc)
  exact kk _ _ _ hw (inv_mono e7.2 (by omega))
set_option maxHeartbeats 4000000 in
set_option maxRecDepth 100000 in
theorem lc_11 (hf : CallFix p m c code 4 s #[Value.ref b] wsL_law RL) (hl : lv_has ls 4 (lvL E b x3)) (hw : Wk E μ s H locs) (hX : va_X b L xs s s.heap) (hbl : b < s.heap.size) (hbA : ¬ inE E b) (hi : ∀ k, k < 5 → vp_in (x3 + nI k) L) (h : Inv B μ) (hB : B + 61 < 2 ^ 30) (kk : ∀ (H : Heap) (locs : List Loc) (μ : Mu), Wk E μ s H locs → Inv (B + 61) μ → W p l e room_1 s m #[Value.ref b] below meth c H locs 240 3758 Q (F0 m 1162 ls [])) : W p l e room_1 s m #[Value.ref b] below meth c H locs 240 3758 Q (F0 m 559 ls []) := by
  have e7 := st_strain h (xs (x3 + 1).toNatClampNeg) (xs (x3 + 2).toNatClampNeg) (xs (x3 + 3).toNatClampNeg)
  have q7 : H7 μ.1 (sp_X7_strain μ (xs (x3 + 1).toNatClampNeg) (xs (x3 + 2).toNatClampNeg) (xs (x3 + 3).toNatClampNeg)).2 := h7_X7_strain μ (xs (x3 + 1).toNatClampNeg) (xs (x3 + 2).toNatClampNeg) (xs (x3 + 3).toNatClampNeg) (fun c hc => rec_7 h hc) (fun _ _ => rfl)
  refine lv_aload_n hf.1 hf.2.1 dL_law_559 rfl (lv_at hl 1 rfl) ?_
  refine pushA hf hl hw hX hbl hbA (v := 1) (by decide) (hi 1 (by decide)) dL_law_560 dL_law_561 dL_law_562 dL_law_563 dL_law_564 ?_
  refine pushA hf hl hw hX hbl hbA (v := 2) (by decide) (hi 2 (by decide)) dL_law_565 dL_law_566 dL_law_567 dL_law_568 dL_law_569 ?_
  refine pushA hf hl hw hX hbl hbA (v := 3) (by decide) (hi 3 (by decide)) dL_law_570 dL_law_571 dL_law_572 dL_law_573 dL_law_574 ?_
  refine c_i hw (run_V (As := [.int (xs (x3 + 1).toNatClampNeg), .int (xs (x3 + 2).toNatClampNeg), .int (xs (x3 + 3).toNatClampNeg)]) (rest := []) (np := 3) hf hw (k_X7_strain l E _ (xs (x3 + 1).toNatClampNeg) (xs (x3 + 2).toNatClampNeg) (xs (x3 + 3).toNatClampNeg) (inv_K h)) ⟨gl_V q442 q443 q444 q2 q445, by decide +kernel⟩ ⟨rfl, rfl, Nat.le_of_ble_eq_true rfl, Nat.le_of_ble_eq_true rfl⟩ (by decide) (c_O E _) rfl rfl hl.1 rfl (Nat.le_of_ble_eq_true rfl) dL_law_575 ⟨Nat.le_of_ble_eq_true rfl, Nat.le_of_ble_eq_true rfl⟩) (fun H locs hw => ?_)
  generalize (sp_X7_strain μ (xs (x3 + 1).toNatClampNeg) (xs (x3 + 2).toNatClampNeg) (xs (x3 + 3).toNatClampNeg)) = a at *
  refine lv_aload_n hf.1 hf.2.1 dL_law_578 rfl (lv_at hl 2 rfl) ?_
  refine pushA hf hl hw hX hbl hbA (v := 1) (by decide) (hi 1 (by decide)) dL_law_579 dL_law_580 dL_law_581 dL_law_582 dL_law_583 ?_
  refine pushA hf hl hw hX hbl hbA (v := 2) (by decide) (hi 2 (by decide)) dL_law_584 dL_law_585 dL_law_586 dL_law_587 dL_law_588 ?_
  refine pushA hf hl hw hX hbl hbA (v := 3) (by decide) (hi 3 (by decide)) dL_law_589 dL_law_590 dL_law_591 dL_law_592 dL_law_593 ?_
  refine c_i hw (run_V (As := [.int (xs (x3 + 1).toNatClampNeg), .int (xs (x3 + 2).toNatClampNeg), .int (xs (x3 + 3).toNatClampNeg)]) (rest := [.int a.1]) (np := 3) hf hw (k_X8_strain l E _ (xs (x3 + 1).toNatClampNeg) (xs (x3 + 2).toNatClampNeg) (xs (x3 + 3).toNatClampNeg) (x_RI h q7) (x_st h q7)) ⟨gl_V q459 q460 q461 q5 q462, by decide +kernel⟩ ⟨rfl, rfl, Nat.le_of_ble_eq_true rfl, Nat.le_of_ble_eq_true rfl⟩ (by decide) (c_R E _) rfl rfl hl.1 rfl (Nat.le_of_ble_eq_true rfl) dL_law_594 ⟨Nat.le_of_ble_eq_true rfl, Nat.le_of_ble_eq_true rfl⟩) (fun H locs hw => ?_)
  refine lv_icmp_eq (tgt := 1162) hf.1 hf.2.1 dL_law_597 (by decide) (fun _ => ?_) (fun cc => absurd e7.1 cc)
  exact kk _ _ _ hw (inv_mono e7.2 (by omega))
set_option maxHeartbeats 4000000 in
set_option maxRecDepth 100000 in
theorem lc_12 (hf : CallFix p m c code 4 s #[Value.ref b] wsL_law RL) (hl : lv_has ls 4 (lvL E b x3)) (hw : Wk E μ s H locs) (hX : va_X b L xs s s.heap) (hbl : b < s.heap.size) (hbA : ¬ inE E b) (hi : ∀ k, k < 5 → vp_in (x3 + nI k) L) (h : Inv B μ) (hB : B + 61 < 2 ^ 30) (kk : ∀ (H : Heap) (locs : List Loc) (μ : Mu), Wk E μ s H locs → Inv (B + 61) μ → W p l e room_1 s m #[Value.ref b] below meth c H locs 240 3758 Q (F0 m 1162 ls [])) : W p l e room_1 s m #[Value.ref b] below meth c H locs 240 3758 Q (F0 m 602 ls []) := by
  have e7 := st_cut h (xs (x3 + 1).toNatClampNeg) (xs (x3 + 2).toNatClampNeg) (xs (x3 + 3).toNatClampNeg)
  have q7 : H7 μ.1 (sp_X7_cut μ (xs (x3 + 1).toNatClampNeg) (xs (x3 + 2).toNatClampNeg) (xs (x3 + 3).toNatClampNeg)).2 := h7_X7_cut μ (xs (x3 + 1).toNatClampNeg) (xs (x3 + 2).toNatClampNeg) (xs (x3 + 3).toNatClampNeg) (fun c hc => rec_7 h hc) (fun _ _ => rfl)
  refine lv_aload_n hf.1 hf.2.1 dL_law_602 rfl (lv_at hl 1 rfl) ?_
  refine pushA hf hl hw hX hbl hbA (v := 1) (by decide) (hi 1 (by decide)) dL_law_603 dL_law_604 dL_law_605 dL_law_606 dL_law_607 ?_
  refine pushA hf hl hw hX hbl hbA (v := 2) (by decide) (hi 2 (by decide)) dL_law_608 dL_law_609 dL_law_610 dL_law_611 dL_law_612 ?_
  refine pushA hf hl hw hX hbl hbA (v := 3) (by decide) (hi 3 (by decide)) dL_law_613 dL_law_614 dL_law_615 dL_law_616 dL_law_617 ?_
  refine c_i hw (run_V (As := [.int (xs (x3 + 1).toNatClampNeg), .int (xs (x3 + 2).toNatClampNeg), .int (xs (x3 + 3).toNatClampNeg)]) (rest := []) (np := 3) hf hw (k_X7_cut l E _ (xs (x3 + 1).toNatClampNeg) (xs (x3 + 2).toNatClampNeg) (xs (x3 + 3).toNatClampNeg) (inv_K h)) ⟨gl_V q464 q465 q466 q2 q467, by decide +kernel⟩ ⟨rfl, rfl, Nat.le_of_ble_eq_true rfl, Nat.le_of_ble_eq_true rfl⟩ (by decide) (c_O E _) rfl rfl hl.1 rfl (Nat.le_of_ble_eq_true rfl) dL_law_618 ⟨Nat.le_of_ble_eq_true rfl, Nat.le_of_ble_eq_true rfl⟩) (fun H locs hw => ?_)
  generalize (sp_X7_cut μ (xs (x3 + 1).toNatClampNeg) (xs (x3 + 2).toNatClampNeg) (xs (x3 + 3).toNatClampNeg)) = a at *
  refine lv_aload_n hf.1 hf.2.1 dL_law_621 rfl (lv_at hl 2 rfl) ?_
  refine pushA hf hl hw hX hbl hbA (v := 1) (by decide) (hi 1 (by decide)) dL_law_622 dL_law_623 dL_law_624 dL_law_625 dL_law_626 ?_
  refine pushA hf hl hw hX hbl hbA (v := 2) (by decide) (hi 2 (by decide)) dL_law_627 dL_law_628 dL_law_629 dL_law_630 dL_law_631 ?_
  refine pushA hf hl hw hX hbl hbA (v := 3) (by decide) (hi 3 (by decide)) dL_law_632 dL_law_633 dL_law_634 dL_law_635 dL_law_636 ?_
  refine c_i hw (run_V (As := [.int (xs (x3 + 1).toNatClampNeg), .int (xs (x3 + 2).toNatClampNeg), .int (xs (x3 + 3).toNatClampNeg)]) (rest := [.int a.1]) (np := 3) hf hw (k_X8_cut l E _ (xs (x3 + 1).toNatClampNeg) (xs (x3 + 2).toNatClampNeg) (xs (x3 + 3).toNatClampNeg) (x_RI h q7) (x_st h q7)) ⟨gl_V q484 q485 q486 q5 q487, by decide +kernel⟩ ⟨rfl, rfl, Nat.le_of_ble_eq_true rfl, Nat.le_of_ble_eq_true rfl⟩ (by decide) (c_R E _) rfl rfl hl.1 rfl (Nat.le_of_ble_eq_true rfl) dL_law_637 ⟨Nat.le_of_ble_eq_true rfl, Nat.le_of_ble_eq_true rfl⟩) (fun H locs hw => ?_)
  refine lv_icmp_eq (tgt := 1162) hf.1 hf.2.1 dL_law_640 (by decide) (fun _ => ?_) (fun cc => absurd e7.1 cc)
  exact kk _ _ _ hw (inv_mono e7.2 (by omega))
set_option maxHeartbeats 4000000 in
set_option maxRecDepth 100000 in
theorem lc_13 (hf : CallFix p m c code 4 s #[Value.ref b] wsL_law RL) (hl : lv_has ls 4 (lvL E b x3)) (hw : Wk E μ s H locs) (hX : va_X b L xs s s.heap) (hbl : b < s.heap.size) (hbA : ¬ inE E b) (hi : ∀ k, k < 5 → vp_in (x3 + nI k) L) (h : Inv B μ) (hB : B + 61 < 2 ^ 30) (kk : ∀ (H : Heap) (locs : List Loc) (μ : Mu), Wk E μ s H locs → Inv (B + 61) μ → W p l e room_1 s m #[Value.ref b] below meth c H locs 240 3758 Q (F0 m 1162 ls [])) : W p l e room_1 s m #[Value.ref b] below meth c H locs 240 3758 Q (F0 m 645 ls []) := by
  have e7 := st_drift h (xs (x3 + 1).toNatClampNeg) (xs (x3 + 2).toNatClampNeg)
  have q7 : H7 μ.1 (sp_X7_drift μ (xs (x3 + 1).toNatClampNeg) (xs (x3 + 2).toNatClampNeg)).2 := h7_X7_drift μ (xs (x3 + 1).toNatClampNeg) (xs (x3 + 2).toNatClampNeg) (fun c hc => rec_7 h hc) (fun _ _ => rfl)
  refine lv_aload_n hf.1 hf.2.1 dL_law_645 rfl (lv_at hl 1 rfl) ?_
  refine pushA hf hl hw hX hbl hbA (v := 1) (by decide) (hi 1 (by decide)) dL_law_646 dL_law_647 dL_law_648 dL_law_649 dL_law_650 ?_
  refine pushA hf hl hw hX hbl hbA (v := 2) (by decide) (hi 2 (by decide)) dL_law_651 dL_law_652 dL_law_653 dL_law_654 dL_law_655 ?_
  refine c_i hw (run_V (As := [.int (xs (x3 + 1).toNatClampNeg), .int (xs (x3 + 2).toNatClampNeg)]) (rest := []) (np := 2) hf hw (k_X7_drift l E _ (xs (x3 + 1).toNatClampNeg) (xs (x3 + 2).toNatClampNeg) (inv_K h)) ⟨gl_V q495 q496 q497 q2 q498, by decide +kernel⟩ ⟨rfl, rfl, Nat.le_of_ble_eq_true rfl, Nat.le_of_ble_eq_true rfl⟩ (by decide) (c_O E _) rfl rfl hl.1 rfl (Nat.le_of_ble_eq_true rfl) dL_law_656 ⟨Nat.le_of_ble_eq_true rfl, Nat.le_of_ble_eq_true rfl⟩) (fun H locs hw => ?_)
  generalize (sp_X7_drift μ (xs (x3 + 1).toNatClampNeg) (xs (x3 + 2).toNatClampNeg)) = a at *
  refine lv_aload_n hf.1 hf.2.1 dL_law_659 rfl (lv_at hl 2 rfl) ?_
  refine pushA hf hl hw hX hbl hbA (v := 1) (by decide) (hi 1 (by decide)) dL_law_660 dL_law_661 dL_law_662 dL_law_663 dL_law_664 ?_
  refine pushA hf hl hw hX hbl hbA (v := 2) (by decide) (hi 2 (by decide)) dL_law_665 dL_law_666 dL_law_667 dL_law_668 dL_law_669 ?_
  refine c_i hw (run_V (As := [.int (xs (x3 + 1).toNatClampNeg), .int (xs (x3 + 2).toNatClampNeg)]) (rest := [.int a.1]) (np := 2) hf hw (k_X8_drift l E _ (xs (x3 + 1).toNatClampNeg) (xs (x3 + 2).toNatClampNeg) (x_RI h q7) (x_st h q7)) ⟨gl_V q503 q504 q505 q5 q506, by decide +kernel⟩ ⟨rfl, rfl, Nat.le_of_ble_eq_true rfl, Nat.le_of_ble_eq_true rfl⟩ (by decide) (c_R E _) rfl rfl hl.1 rfl (Nat.le_of_ble_eq_true rfl) dL_law_670 ⟨Nat.le_of_ble_eq_true rfl, Nat.le_of_ble_eq_true rfl⟩) (fun H locs hw => ?_)
  refine lv_icmp_eq (tgt := 1162) hf.1 hf.2.1 dL_law_673 (by decide) (fun _ => ?_) (fun cc => absurd e7.1 cc)
  exact kk _ _ _ hw (inv_mono e7.2 (by omega))
set_option maxHeartbeats 4000000 in
set_option maxRecDepth 100000 in
theorem lc_14 (hf : CallFix p m c code 4 s #[Value.ref b] wsL_law RL) (hl : lv_has ls 4 (lvL E b x3)) (hw : Wk E μ s H locs) (hX : va_X b L xs s s.heap) (hbl : b < s.heap.size) (hbA : ¬ inE E b) (hi : ∀ k, k < 5 → vp_in (x3 + nI k) L) (h : Inv B μ) (hB : B + 61 < 2 ^ 30) (kk : ∀ (H : Heap) (locs : List Loc) (μ : Mu), Wk E μ s H locs → Inv (B + 61) μ → W p l e room_1 s m #[Value.ref b] below meth c H locs 240 3758 Q (F0 m 1162 ls [])) : W p l e room_1 s m #[Value.ref b] below meth c H locs 240 3758 Q (F0 m 678 ls []) := by
  have e7 := st_calibrate h (xs (x3 + 1).toNatClampNeg) (xs (x3 + 2).toNatClampNeg)
  have q7 : H7 μ.1 (sp_X7_calibrate μ (xs (x3 + 1).toNatClampNeg) (xs (x3 + 2).toNatClampNeg)).2 := h7_X7_calibrate μ (xs (x3 + 1).toNatClampNeg) (xs (x3 + 2).toNatClampNeg) (fun t c hc => (rec_7 (inv_ms h (Nat.le_refl B) t) hc).trans (ms_M μ t (show c ≠ 6 by omega))) (fun _ _ => rfl)
  refine lv_aload_n hf.1 hf.2.1 dL_law_678 rfl (lv_at hl 1 rfl) ?_
  refine pushA hf hl hw hX hbl hbA (v := 1) (by decide) (hi 1 (by decide)) dL_law_679 dL_law_680 dL_law_681 dL_law_682 dL_law_683 ?_
  refine pushA hf hl hw hX hbl hbA (v := 2) (by decide) (hi 2 (by decide)) dL_law_684 dL_law_685 dL_law_686 dL_law_687 dL_law_688 ?_
  refine c_i hw (run_V (As := [.int (xs (x3 + 1).toNatClampNeg), .int (xs (x3 + 2).toNatClampNeg)]) (rest := []) (np := 2) hf hw (k_X7_calibrate l E _ (xs (x3 + 1).toNatClampNeg) (xs (x3 + 2).toNatClampNeg) (inv_K h)) ⟨gl_V q513 q514 q515 q2 q516, by decide +kernel⟩ ⟨rfl, rfl, Nat.le_of_ble_eq_true rfl, Nat.le_of_ble_eq_true rfl⟩ (by decide) (c_O E _) rfl rfl hl.1 rfl (Nat.le_of_ble_eq_true rfl) dL_law_689 ⟨Nat.le_of_ble_eq_true rfl, Nat.le_of_ble_eq_true rfl⟩) (fun H locs hw => ?_)
  generalize (sp_X7_calibrate μ (xs (x3 + 1).toNatClampNeg) (xs (x3 + 2).toNatClampNeg)) = a at *
  refine lv_aload_n hf.1 hf.2.1 dL_law_692 rfl (lv_at hl 2 rfl) ?_
  refine pushA hf hl hw hX hbl hbA (v := 1) (by decide) (hi 1 (by decide)) dL_law_693 dL_law_694 dL_law_695 dL_law_696 dL_law_697 ?_
  refine pushA hf hl hw hX hbl hbA (v := 2) (by decide) (hi 2 (by decide)) dL_law_698 dL_law_699 dL_law_700 dL_law_701 dL_law_702 ?_
  refine c_i hw (run_V (As := [.int (xs (x3 + 1).toNatClampNeg), .int (xs (x3 + 2).toNatClampNeg)]) (rest := [.int a.1]) (np := 2) hf hw (k_X8_calibrate l E _ (xs (x3 + 1).toNatClampNeg) (xs (x3 + 2).toNatClampNeg) (x_G h q7) (x_S h q7) (x_st h q7)) ⟨gl_V q627 q628 q629 q5 q630, by decide +kernel⟩ ⟨rfl, rfl, Nat.le_of_ble_eq_true rfl, Nat.le_of_ble_eq_true rfl⟩ (by decide) (c_R E _) rfl rfl hl.1 rfl (Nat.le_of_ble_eq_true rfl) dL_law_703 ⟨Nat.le_of_ble_eq_true rfl, Nat.le_of_ble_eq_true rfl⟩) (fun H locs hw => ?_)
  refine lv_icmp_eq (tgt := 1162) hf.1 hf.2.1 dL_law_706 (by decide) (fun _ => ?_) (fun cc => absurd e7.1 cc)
  exact kk _ _ _ hw (inv_mono e7.2 (by omega))
set_option maxHeartbeats 4000000 in
set_option maxRecDepth 100000 in
theorem lc_15 (hf : CallFix p m c code 4 s #[Value.ref b] wsL_law RL) (hl : lv_has ls 4 (lvL E b x3)) (hw : Wk E μ s H locs) (hX : va_X b L xs s s.heap) (hbl : b < s.heap.size) (hbA : ¬ inE E b) (hi : ∀ k, k < 5 → vp_in (x3 + nI k) L) (h : Inv B μ) (hB : B + 61 < 2 ^ 30) (kk : ∀ (H : Heap) (locs : List Loc) (μ : Mu), Wk E μ s H locs → Inv (B + 61) μ → W p l e room_1 s m #[Value.ref b] below meth c H locs 240 3758 Q (F0 m 1162 ls [])) : W p l e room_1 s m #[Value.ref b] below meth c H locs 240 3758 Q (F0 m 711 ls []) := by
  have e7 := st_limits h (xs (x3 + 1).toNatClampNeg) (xs (x3 + 2).toNatClampNeg) (xs (x3 + 3).toNatClampNeg) (xs (x3 + 4).toNatClampNeg)
  have q7 : H7 μ.1 (sp_X7_limits μ (xs (x3 + 1).toNatClampNeg) (xs (x3 + 2).toNatClampNeg) (xs (x3 + 3).toNatClampNeg) (xs (x3 + 4).toNatClampNeg)).2 := h7_X7_limits μ (xs (x3 + 1).toNatClampNeg) (xs (x3 + 2).toNatClampNeg) (xs (x3 + 3).toNatClampNeg) (xs (x3 + 4).toNatClampNeg) (fun c hc => rec_7 h hc) (fun _ _ => rfl)
  refine lv_aload_n hf.1 hf.2.1 dL_law_711 rfl (lv_at hl 1 rfl) ?_
  refine pushA hf hl hw hX hbl hbA (v := 1) (by decide) (hi 1 (by decide)) dL_law_712 dL_law_713 dL_law_714 dL_law_715 dL_law_716 ?_
  refine pushA hf hl hw hX hbl hbA (v := 2) (by decide) (hi 2 (by decide)) dL_law_717 dL_law_718 dL_law_719 dL_law_720 dL_law_721 ?_
  refine pushA hf hl hw hX hbl hbA (v := 3) (by decide) (hi 3 (by decide)) dL_law_722 dL_law_723 dL_law_724 dL_law_725 dL_law_726 ?_
  refine pushA hf hl hw hX hbl hbA (v := 4) (by decide) (hi 4 (by decide)) dL_law_727 dL_law_728 dL_law_729 dL_law_730 dL_law_731 ?_
  refine c_i hw (run_V (As := [.int (xs (x3 + 1).toNatClampNeg), .int (xs (x3 + 2).toNatClampNeg), .int (xs (x3 + 3).toNatClampNeg), .int (xs (x3 + 4).toNatClampNeg)]) (rest := []) (np := 4) hf hw (k_X7_limits l E _ (xs (x3 + 1).toNatClampNeg) (xs (x3 + 2).toNatClampNeg) (xs (x3 + 3).toNatClampNeg) (xs (x3 + 4).toNatClampNeg) (inv_K h)) ⟨gl_V q683 q684 q685 q2 q686, by decide +kernel⟩ ⟨rfl, rfl, Nat.le_of_ble_eq_true rfl, Nat.le_of_ble_eq_true rfl⟩ (by decide) (c_O E _) rfl rfl hl.1 rfl (Nat.le_of_ble_eq_true rfl) dL_law_732 ⟨Nat.le_of_ble_eq_true rfl, Nat.le_of_ble_eq_true rfl⟩) (fun H locs hw => ?_)
  generalize (sp_X7_limits μ (xs (x3 + 1).toNatClampNeg) (xs (x3 + 2).toNatClampNeg) (xs (x3 + 3).toNatClampNeg) (xs (x3 + 4).toNatClampNeg)) = a at *
  refine lv_aload_n hf.1 hf.2.1 dL_law_735 rfl (lv_at hl 2 rfl) ?_
  refine pushA hf hl hw hX hbl hbA (v := 1) (by decide) (hi 1 (by decide)) dL_law_736 dL_law_737 dL_law_738 dL_law_739 dL_law_740 ?_
  refine pushA hf hl hw hX hbl hbA (v := 2) (by decide) (hi 2 (by decide)) dL_law_741 dL_law_742 dL_law_743 dL_law_744 dL_law_745 ?_
  refine pushA hf hl hw hX hbl hbA (v := 3) (by decide) (hi 3 (by decide)) dL_law_746 dL_law_747 dL_law_748 dL_law_749 dL_law_750 ?_
  refine pushA hf hl hw hX hbl hbA (v := 4) (by decide) (hi 4 (by decide)) dL_law_751 dL_law_752 dL_law_753 dL_law_754 dL_law_755 ?_
  refine c_i hw (run_V (As := [.int (xs (x3 + 1).toNatClampNeg), .int (xs (x3 + 2).toNatClampNeg), .int (xs (x3 + 3).toNatClampNeg), .int (xs (x3 + 4).toNatClampNeg)]) (rest := [.int a.1]) (np := 4) hf hw (k_X8_limits l E _ (xs (x3 + 1).toNatClampNeg) (xs (x3 + 2).toNatClampNeg) (xs (x3 + 3).toNatClampNeg) (xs (x3 + 4).toNatClampNeg) (x_RI h q7) (x_st h q7)) ⟨gl_V q689 q690 q691 q5 q692, by decide +kernel⟩ ⟨rfl, rfl, Nat.le_of_ble_eq_true rfl, Nat.le_of_ble_eq_true rfl⟩ (by decide) (c_R E _) rfl rfl hl.1 rfl (Nat.le_of_ble_eq_true rfl) dL_law_756 ⟨Nat.le_of_ble_eq_true rfl, Nat.le_of_ble_eq_true rfl⟩) (fun H locs hw => ?_)
  refine lv_icmp_eq (tgt := 1162) hf.1 hf.2.1 dL_law_759 (by decide) (fun _ => ?_) (fun cc => absurd e7.1 cc)
  exact kk _ _ _ hw (inv_mono e7.2 (by omega))
set_option maxHeartbeats 4000000 in
set_option maxRecDepth 100000 in
theorem lc_16 (hf : CallFix p m c code 4 s #[Value.ref b] wsL_law RL) (hl : lv_has ls 4 (lvL E b x3)) (hw : Wk E μ s H locs) (hX : va_X b L xs s s.heap) (hbl : b < s.heap.size) (hbA : ¬ inE E b) (hi : ∀ k, k < 5 → vp_in (x3 + nI k) L) (h : Inv B μ) (hB : B + 61 < 2 ^ 30) (kk : ∀ (H : Heap) (locs : List Loc) (μ : Mu), Wk E μ s H locs → Inv (B + 61) μ → W p l e room_1 s m #[Value.ref b] below meth c H locs 240 3758 Q (F0 m 1162 ls [])) : W p l e room_1 s m #[Value.ref b] below meth c H locs 240 3758 Q (F0 m 764 ls []) := by
  have e7 := st_sensorOf h (xs (x3 + 1).toNatClampNeg) (xs (x3 + 2).toNatClampNeg)
  have q7 : H7 μ.1 μ := fun _ _ => rfl
  refine lv_aload_n hf.1 hf.2.1 dL_law_764 rfl (lv_at hl 1 rfl) ?_
  refine pushA hf hl hw hX hbl hbA (v := 1) (by decide) (hi 1 (by decide)) dL_law_765 dL_law_766 dL_law_767 dL_law_768 dL_law_769 ?_
  refine pushA hf hl hw hX hbl hbA (v := 2) (by decide) (hi 2 (by decide)) dL_law_770 dL_law_771 dL_law_772 dL_law_773 dL_law_774 ?_
  refine c_iR hw (run_V (As := [.int (xs (x3 + 1).toNatClampNeg), .int (xs (x3 + 2).toNatClampNeg)]) (rest := []) (np := 2) hf hw (k_X7_sensorOf l E _ (xs (x3 + 1).toNatClampNeg) (xs (x3 + 2).toNatClampNeg) ) ⟨gl_V q693 q694 q695 q2 q696, by decide +kernel⟩ ⟨rfl, rfl, Nat.le_of_ble_eq_true rfl, Nat.le_of_ble_eq_true rfl⟩ (by decide) (c_O E _) rfl rfl hl.1 rfl (Nat.le_of_ble_eq_true rfl) dL_law_775 ⟨Nat.le_of_ble_eq_true rfl, Nat.le_of_ble_eq_true rfl⟩) (fun H locs hw => ?_)
  refine lv_aload_n hf.1 hf.2.1 dL_law_778 rfl (lv_at hl 2 rfl) ?_
  refine pushA hf hl hw hX hbl hbA (v := 1) (by decide) (hi 1 (by decide)) dL_law_779 dL_law_780 dL_law_781 dL_law_782 dL_law_783 ?_
  refine pushA hf hl hw hX hbl hbA (v := 2) (by decide) (hi 2 (by decide)) dL_law_784 dL_law_785 dL_law_786 dL_law_787 dL_law_788 ?_
  refine c_iR hw (run_V (As := [.int (xs (x3 + 1).toNatClampNeg), .int (xs (x3 + 2).toNatClampNeg)]) (rest := [.int (sp_X7_sensorOf (μ.1 0) (xs (x3 + 1).toNatClampNeg) (xs (x3 + 2).toNatClampNeg))]) (np := 2) hf hw (k_X8_sensorOf l E _ (xs (x3 + 1).toNatClampNeg) (xs (x3 + 2).toNatClampNeg) (x_RI h q7)) ⟨gl_V q708 q709 q710 q5 q711, by decide +kernel⟩ ⟨rfl, rfl, Nat.le_of_ble_eq_true rfl, Nat.le_of_ble_eq_true rfl⟩ (by decide) (c_R E _) rfl rfl hl.1 rfl (Nat.le_of_ble_eq_true rfl) dL_law_789 ⟨Nat.le_of_ble_eq_true rfl, Nat.le_of_ble_eq_true rfl⟩) (fun H locs hw => ?_)
  refine lv_icmp_eq (tgt := 1162) hf.1 hf.2.1 dL_law_792 (by decide) (fun _ => ?_) (fun cc => absurd e7.1 cc)
  exact kk _ _ _ hw (inv_mono e7.2 (by omega))
set_option maxHeartbeats 4000000 in
set_option maxRecDepth 100000 in
theorem lc_17 (hf : CallFix p m c code 4 s #[Value.ref b] wsL_law RL) (hl : lv_has ls 4 (lvL E b x3)) (hw : Wk E μ s H locs) (hX : va_X b L xs s s.heap) (hbl : b < s.heap.size) (hbA : ¬ inE E b) (hi : ∀ k, k < 5 → vp_in (x3 + nI k) L) (h : Inv B μ) (hB : B + 61 < 2 ^ 30) (kk : ∀ (H : Heap) (locs : List Loc) (μ : Mu), Wk E μ s H locs → Inv (B + 61) μ → W p l e room_1 s m #[Value.ref b] below meth c H locs 240 3758 Q (F0 m 1162 ls [])) : W p l e room_1 s m #[Value.ref b] below meth c H locs 240 3758 Q (F0 m 797 ls []) := by
  have e7 := st_set h (xs (x3 + 1).toNatClampNeg) (xs (x3 + 2).toNatClampNeg)
  have q7 : H7 μ.1 (sp_X7_set μ (xs (x3 + 1).toNatClampNeg) (xs (x3 + 2).toNatClampNeg)).2 := h7_X7_set μ (xs (x3 + 1).toNatClampNeg) (xs (x3 + 2).toNatClampNeg) (fun c hc => rec_7 h hc) (fun _ _ => rfl)
  refine lv_aload_n hf.1 hf.2.1 dL_law_797 rfl (lv_at hl 1 rfl) ?_
  refine pushA hf hl hw hX hbl hbA (v := 1) (by decide) (hi 1 (by decide)) dL_law_798 dL_law_799 dL_law_800 dL_law_801 dL_law_802 ?_
  refine pushA hf hl hw hX hbl hbA (v := 2) (by decide) (hi 2 (by decide)) dL_law_803 dL_law_804 dL_law_805 dL_law_806 dL_law_807 ?_
  refine c_i hw (run_V (As := [.int (xs (x3 + 1).toNatClampNeg), .int (xs (x3 + 2).toNatClampNeg)]) (rest := []) (np := 2) hf hw (k_X7_set l E _ (xs (x3 + 1).toNatClampNeg) (xs (x3 + 2).toNatClampNeg) (inv_K h)) ⟨gl_V q712 q713 q714 q2 q715, by decide +kernel⟩ ⟨rfl, rfl, Nat.le_of_ble_eq_true rfl, Nat.le_of_ble_eq_true rfl⟩ (by decide) (c_O E _) rfl rfl hl.1 rfl (Nat.le_of_ble_eq_true rfl) dL_law_808 ⟨Nat.le_of_ble_eq_true rfl, Nat.le_of_ble_eq_true rfl⟩) (fun H locs hw => ?_)
  generalize (sp_X7_set μ (xs (x3 + 1).toNatClampNeg) (xs (x3 + 2).toNatClampNeg)) = a at *
  refine lv_aload_n hf.1 hf.2.1 dL_law_811 rfl (lv_at hl 2 rfl) ?_
  refine pushA hf hl hw hX hbl hbA (v := 1) (by decide) (hi 1 (by decide)) dL_law_812 dL_law_813 dL_law_814 dL_law_815 dL_law_816 ?_
  refine pushA hf hl hw hX hbl hbA (v := 2) (by decide) (hi 2 (by decide)) dL_law_817 dL_law_818 dL_law_819 dL_law_820 dL_law_821 ?_
  refine c_i hw (run_V (As := [.int (xs (x3 + 1).toNatClampNeg), .int (xs (x3 + 2).toNatClampNeg)]) (rest := [.int a.1]) (np := 2) hf hw (k_X8_set l E _ (xs (x3 + 1).toNatClampNeg) (xs (x3 + 2).toNatClampNeg) (x_RI h q7) (x_st h q7)) ⟨gl_V q723 q724 q725 q5 q726, by decide +kernel⟩ ⟨rfl, rfl, Nat.le_of_ble_eq_true rfl, Nat.le_of_ble_eq_true rfl⟩ (by decide) (c_R E _) rfl rfl hl.1 rfl (Nat.le_of_ble_eq_true rfl) dL_law_822 ⟨Nat.le_of_ble_eq_true rfl, Nat.le_of_ble_eq_true rfl⟩) (fun H locs hw => ?_)
  refine lv_icmp_eq (tgt := 1162) hf.1 hf.2.1 dL_law_825 (by decide) (fun _ => ?_) (fun cc => absurd e7.1 cc)
  exact kk _ _ _ hw (inv_mono e7.2 (by omega))
set_option maxHeartbeats 4000000 in
set_option maxRecDepth 100000 in
theorem lc_18 (hf : CallFix p m c code 4 s #[Value.ref b] wsL_law RL) (hl : lv_has ls 4 (lvL E b x3)) (hw : Wk E μ s H locs) (hX : va_X b L xs s s.heap) (hbl : b < s.heap.size) (hbA : ¬ inE E b) (hi : ∀ k, k < 5 → vp_in (x3 + nI k) L) (h : Inv B μ) (hB : B + 61 < 2 ^ 30) (kk : ∀ (H : Heap) (locs : List Loc) (μ : Mu), Wk E μ s H locs → Inv (B + 61) μ → W p l e room_1 s m #[Value.ref b] below meth c H locs 240 3758 Q (F0 m 1162 ls [])) : W p l e room_1 s m #[Value.ref b] below meth c H locs 240 3758 Q (F0 m 830 ls []) := by
  have e7 := st_counts h (xs (x3 + 1).toNatClampNeg) (xs (x3 + 2).toNatClampNeg) (xs (x3 + 3).toNatClampNeg) (xs (x3 + 4).toNatClampNeg)
  have q7 : H7 μ.1 (sp_X7_counts μ (xs (x3 + 1).toNatClampNeg) (xs (x3 + 2).toNatClampNeg) (xs (x3 + 3).toNatClampNeg) (xs (x3 + 4).toNatClampNeg)).2 := h7_X7_counts μ (xs (x3 + 1).toNatClampNeg) (xs (x3 + 2).toNatClampNeg) (xs (x3 + 3).toNatClampNeg) (xs (x3 + 4).toNatClampNeg) (fun _ _ => rfl)
  refine lv_aload_n hf.1 hf.2.1 dL_law_830 rfl (lv_at hl 1 rfl) ?_
  refine pushA hf hl hw hX hbl hbA (v := 1) (by decide) (hi 1 (by decide)) dL_law_831 dL_law_832 dL_law_833 dL_law_834 dL_law_835 ?_
  refine pushA hf hl hw hX hbl hbA (v := 2) (by decide) (hi 2 (by decide)) dL_law_836 dL_law_837 dL_law_838 dL_law_839 dL_law_840 ?_
  refine pushA hf hl hw hX hbl hbA (v := 3) (by decide) (hi 3 (by decide)) dL_law_841 dL_law_842 dL_law_843 dL_law_844 dL_law_845 ?_
  refine pushA hf hl hw hX hbl hbA (v := 4) (by decide) (hi 4 (by decide)) dL_law_846 dL_law_847 dL_law_848 dL_law_849 dL_law_850 ?_
  refine c_i hw (run_V (As := [.int (xs (x3 + 1).toNatClampNeg), .int (xs (x3 + 2).toNatClampNeg), .int (xs (x3 + 3).toNatClampNeg), .int (xs (x3 + 4).toNatClampNeg)]) (rest := []) (np := 4) hf hw (k_X7_counts l E _ (xs (x3 + 1).toNatClampNeg) (xs (x3 + 2).toNatClampNeg) (xs (x3 + 3).toNatClampNeg) (xs (x3 + 4).toNatClampNeg) ) ⟨gl_V q734 q735 q736 q2 q737, by decide +kernel⟩ ⟨rfl, rfl, Nat.le_of_ble_eq_true rfl, Nat.le_of_ble_eq_true rfl⟩ (by decide) (c_O E _) rfl rfl hl.1 rfl (Nat.le_of_ble_eq_true rfl) dL_law_851 ⟨Nat.le_of_ble_eq_true rfl, Nat.le_of_ble_eq_true rfl⟩) (fun H locs hw => ?_)
  generalize (sp_X7_counts μ (xs (x3 + 1).toNatClampNeg) (xs (x3 + 2).toNatClampNeg) (xs (x3 + 3).toNatClampNeg) (xs (x3 + 4).toNatClampNeg)) = a at *
  refine lv_aload_n hf.1 hf.2.1 dL_law_854 rfl (lv_at hl 2 rfl) ?_
  refine pushA hf hl hw hX hbl hbA (v := 1) (by decide) (hi 1 (by decide)) dL_law_855 dL_law_856 dL_law_857 dL_law_858 dL_law_859 ?_
  refine pushA hf hl hw hX hbl hbA (v := 2) (by decide) (hi 2 (by decide)) dL_law_860 dL_law_861 dL_law_862 dL_law_863 dL_law_864 ?_
  refine pushA hf hl hw hX hbl hbA (v := 3) (by decide) (hi 3 (by decide)) dL_law_865 dL_law_866 dL_law_867 dL_law_868 dL_law_869 ?_
  refine pushA hf hl hw hX hbl hbA (v := 4) (by decide) (hi 4 (by decide)) dL_law_870 dL_law_871 dL_law_872 dL_law_873 dL_law_874 ?_
  refine c_iR hw (run_V (As := [.int (xs (x3 + 1).toNatClampNeg), .int (xs (x3 + 2).toNatClampNeg), .int (xs (x3 + 3).toNatClampNeg), .int (xs (x3 + 4).toNatClampNeg)]) (rest := [.int a.1]) (np := 4) hf hw (k_X8_counts l E _ (xs (x3 + 1).toNatClampNeg) (xs (x3 + 2).toNatClampNeg) (xs (x3 + 3).toNatClampNeg) (xs (x3 + 4).toNatClampNeg) (x_G h q7) (x_S h q7)) ⟨gl_V q746 q747 q748 q5 q749, by decide +kernel⟩ ⟨rfl, rfl, Nat.le_of_ble_eq_true rfl, Nat.le_of_ble_eq_true rfl⟩ (by decide) (c_R E _) rfl rfl hl.1 rfl (Nat.le_of_ble_eq_true rfl) dL_law_875 ⟨Nat.le_of_ble_eq_true rfl, Nat.le_of_ble_eq_true rfl⟩) (fun H locs hw => ?_)
  refine lv_icmp_eq (tgt := 1162) hf.1 hf.2.1 dL_law_878 (by decide) (fun _ => ?_) (fun cc => absurd e7.1 cc)
  exact kk _ _ _ hw (inv_mono e7.2 (by omega))
set_option maxHeartbeats 4000000 in
set_option maxRecDepth 100000 in
theorem lc_19 (hf : CallFix p m c code 4 s #[Value.ref b] wsL_law RL) (hl : lv_has ls 4 (lvL E b x3)) (hw : Wk E μ s H locs) (hX : va_X b L xs s s.heap) (hbl : b < s.heap.size) (hbA : ¬ inE E b) (hi : ∀ k, k < 5 → vp_in (x3 + nI k) L) (h : Inv B μ) (hB : B + 61 < 2 ^ 30) (kk : ∀ (H : Heap) (locs : List Loc) (μ : Mu), Wk E μ s H locs → Inv (B + 61) μ → W p l e room_1 s m #[Value.ref b] below meth c H locs 240 3758 Q (F0 m 1162 ls [])) : W p l e room_1 s m #[Value.ref b] below meth c H locs 240 3758 Q (F0 m 883 ls []) := by
  have e7 := st_ohms h (xs (x3 + 1).toNatClampNeg) (xs (x3 + 2).toNatClampNeg)
  have q7 : H7 μ.1 (sp_X7_ohms μ (xs (x3 + 1).toNatClampNeg) (xs (x3 + 2).toNatClampNeg)).2 := h7_X7_ohms μ (xs (x3 + 1).toNatClampNeg) (xs (x3 + 2).toNatClampNeg) (fun _ _ => rfl)
  refine lv_aload_n hf.1 hf.2.1 dL_law_883 rfl (lv_at hl 1 rfl) ?_
  refine pushA hf hl hw hX hbl hbA (v := 1) (by decide) (hi 1 (by decide)) dL_law_884 dL_law_885 dL_law_886 dL_law_887 dL_law_888 ?_
  refine pushA hf hl hw hX hbl hbA (v := 2) (by decide) (hi 2 (by decide)) dL_law_889 dL_law_890 dL_law_891 dL_law_892 dL_law_893 ?_
  refine c_i hw (run_V (As := [.int (xs (x3 + 1).toNatClampNeg), .int (xs (x3 + 2).toNatClampNeg)]) (rest := []) (np := 2) hf hw (k_X7_ohms l E _ (xs (x3 + 1).toNatClampNeg) (xs (x3 + 2).toNatClampNeg) ) ⟨gl_V q750 q751 q752 q2 q753, by decide +kernel⟩ ⟨rfl, rfl, Nat.le_of_ble_eq_true rfl, Nat.le_of_ble_eq_true rfl⟩ (by decide) (c_O E _) rfl rfl hl.1 rfl (Nat.le_of_ble_eq_true rfl) dL_law_894 ⟨Nat.le_of_ble_eq_true rfl, Nat.le_of_ble_eq_true rfl⟩) (fun H locs hw => ?_)
  generalize (sp_X7_ohms μ (xs (x3 + 1).toNatClampNeg) (xs (x3 + 2).toNatClampNeg)) = a at *
  refine lv_aload_n hf.1 hf.2.1 dL_law_897 rfl (lv_at hl 2 rfl) ?_
  refine pushA hf hl hw hX hbl hbA (v := 1) (by decide) (hi 1 (by decide)) dL_law_898 dL_law_899 dL_law_900 dL_law_901 dL_law_902 ?_
  refine pushA hf hl hw hX hbl hbA (v := 2) (by decide) (hi 2 (by decide)) dL_law_903 dL_law_904 dL_law_905 dL_law_906 dL_law_907 ?_
  refine c_iR hw (run_V (As := [.int (xs (x3 + 1).toNatClampNeg), .int (xs (x3 + 2).toNatClampNeg)]) (rest := [.int a.1]) (np := 2) hf hw (k_X8_ohms l E _ (xs (x3 + 1).toNatClampNeg) (xs (x3 + 2).toNatClampNeg) (x_G h q7) (x_S h q7)) ⟨gl_V q760 q761 q762 q5 q763, by decide +kernel⟩ ⟨rfl, rfl, Nat.le_of_ble_eq_true rfl, Nat.le_of_ble_eq_true rfl⟩ (by decide) (c_R E _) rfl rfl hl.1 rfl (Nat.le_of_ble_eq_true rfl) dL_law_908 ⟨Nat.le_of_ble_eq_true rfl, Nat.le_of_ble_eq_true rfl⟩) (fun H locs hw => ?_)
  refine lv_icmp_eq (tgt := 1162) hf.1 hf.2.1 dL_law_911 (by decide) (fun _ => ?_) (fun cc => absurd e7.1 cc)
  exact kk _ _ _ hw (inv_mono e7.2 (by omega))
set_option maxHeartbeats 4000000 in
set_option maxRecDepth 100000 in
theorem lc_20 (hf : CallFix p m c code 4 s #[Value.ref b] wsL_law RL) (hl : lv_has ls 4 (lvL E b x3)) (hw : Wk E μ s H locs) (hX : va_X b L xs s s.heap) (hbl : b < s.heap.size) (hbA : ¬ inE E b) (hi : ∀ k, k < 5 → vp_in (x3 + nI k) L) (h : Inv B μ) (hB : B + 61 < 2 ^ 30) (kk : ∀ (H : Heap) (locs : List Loc) (μ : Mu), Wk E μ s H locs → Inv (B + 61) μ → W p l e room_1 s m #[Value.ref b] below meth c H locs 240 3758 Q (F0 m 1162 ls [])) : W p l e room_1 s m #[Value.ref b] below meth c H locs 240 3758 Q (F0 m 916 ls []) := by
  have e7 := st_diagnosis h (xs (x3 + 1).toNatClampNeg)
  have q7 : H7 μ.1 (sp_X7_diagnosis μ (xs (x3 + 1).toNatClampNeg)).2 := h7_X7_diagnosis μ (xs (x3 + 1).toNatClampNeg) (fun _ _ => rfl)
  refine lv_aload_n hf.1 hf.2.1 dL_law_916 rfl (lv_at hl 1 rfl) ?_
  refine pushA hf hl hw hX hbl hbA (v := 1) (by decide) (hi 1 (by decide)) dL_law_917 dL_law_918 dL_law_919 dL_law_920 dL_law_921 ?_
  refine c_i hw (run_V (As := [.int (xs (x3 + 1).toNatClampNeg)]) (rest := []) (np := 1) hf hw (k_X7_diagnosis l E _ (xs (x3 + 1).toNatClampNeg) ) ⟨gl_V q764 q765 q766 q2 q767, by decide +kernel⟩ ⟨rfl, rfl, Nat.le_of_ble_eq_true rfl, Nat.le_of_ble_eq_true rfl⟩ (by decide) (c_O E _) rfl rfl hl.1 rfl (Nat.le_of_ble_eq_true rfl) dL_law_922 ⟨Nat.le_of_ble_eq_true rfl, Nat.le_of_ble_eq_true rfl⟩) (fun H locs hw => ?_)
  generalize (sp_X7_diagnosis μ (xs (x3 + 1).toNatClampNeg)) = a at *
  refine lv_aload_n hf.1 hf.2.1 dL_law_925 rfl (lv_at hl 2 rfl) ?_
  refine pushA hf hl hw hX hbl hbA (v := 1) (by decide) (hi 1 (by decide)) dL_law_926 dL_law_927 dL_law_928 dL_law_929 dL_law_930 ?_
  refine c_iR hw (run_V (As := [.int (xs (x3 + 1).toNatClampNeg)]) (rest := [.int a.1]) (np := 1) hf hw (k_X8_diagnosis l E _ (xs (x3 + 1).toNatClampNeg) (x_G h q7) (x_S h q7)) ⟨gl_V q768 q769 q770 q5 q771, by decide +kernel⟩ ⟨rfl, rfl, Nat.le_of_ble_eq_true rfl, Nat.le_of_ble_eq_true rfl⟩ (by decide) (c_R E _) rfl rfl hl.1 rfl (Nat.le_of_ble_eq_true rfl) dL_law_931 ⟨Nat.le_of_ble_eq_true rfl, Nat.le_of_ble_eq_true rfl⟩) (fun H locs hw => ?_)
  refine lv_icmp_eq (tgt := 1162) hf.1 hf.2.1 dL_law_934 (by decide) (fun _ => ?_) (fun cc => absurd e7.1 cc)
  exact kk _ _ _ hw (inv_mono e7.2 (by omega))
set_option maxHeartbeats 4000000 in
set_option maxRecDepth 100000 in
theorem lc_21 (hf : CallFix p m c code 4 s #[Value.ref b] wsL_law RL) (hl : lv_has ls 4 (lvL E b x3)) (hw : Wk E μ s H locs) (hX : va_X b L xs s s.heap) (hbl : b < s.heap.size) (hbA : ¬ inE E b) (hi : ∀ k, k < 5 → vp_in (x3 + nI k) L) (h : Inv B μ) (hB : B + 61 < 2 ^ 30) (kk : ∀ (H : Heap) (locs : List Loc) (μ : Mu), Wk E μ s H locs → Inv (B + 61) μ → W p l e room_1 s m #[Value.ref b] below meth c H locs 240 3758 Q (F0 m 1162 ls [])) : W p l e room_1 s m #[Value.ref b] below meth c H locs 240 3758 Q (F0 m 939 ls []) := by
  have e7 := st_read h (by omega) (xs (x3 + 1).toNatClampNeg)
  have q7 : H7 μ.1 (sp_X7_read μ (xs (x3 + 1).toNatClampNeg)).2 := h7_X7_read μ (xs (x3 + 1).toNatClampNeg) (fun t c hc => (rec_7 (inv_ms h (Nat.le_refl B) t) hc).trans (ms_M μ t (show c ≠ 6 by omega))) (fun _ _ => rfl)
  refine lv_aload_n hf.1 hf.2.1 dL_law_939 rfl (lv_at hl 1 rfl) ?_
  refine pushA hf hl hw hX hbl hbA (v := 1) (by decide) (hi 1 (by decide)) dL_law_940 dL_law_941 dL_law_942 dL_law_943 dL_law_944 ?_
  refine c_i hw (run_V (As := [.int (xs (x3 + 1).toNatClampNeg)]) (rest := []) (np := 1) hf hw (k_X7_read l E _ (xs (x3 + 1).toNatClampNeg) (inv_K h)) ⟨gl_V q772 q773 q774 q2 q775, by decide +kernel⟩ ⟨rfl, rfl, Nat.le_of_ble_eq_true rfl, Nat.le_of_ble_eq_true rfl⟩ (by decide) (c_O E _) rfl rfl hl.1 rfl (Nat.le_of_ble_eq_true rfl) dL_law_945 ⟨Nat.le_of_ble_eq_true rfl, Nat.le_of_ble_eq_true rfl⟩) (fun H locs hw => ?_)
  generalize (sp_X7_read μ (xs (x3 + 1).toNatClampNeg)) = a at *
  refine lv_aload_n hf.1 hf.2.1 dL_law_948 rfl (lv_at hl 2 rfl) ?_
  refine pushA hf hl hw hX hbl hbA (v := 1) (by decide) (hi 1 (by decide)) dL_law_949 dL_law_950 dL_law_951 dL_law_952 dL_law_953 ?_
  refine c_i hw (run_V (As := [.int (xs (x3 + 1).toNatClampNeg)]) (rest := [.int a.1]) (np := 1) hf hw (k_X8_read l E _ (xs (x3 + 1).toNatClampNeg) (x_G h q7) (x_S h q7) (x_st h q7)) ⟨gl_V q781 q782 q783 q5 q784, by decide +kernel⟩ ⟨rfl, rfl, Nat.le_of_ble_eq_true rfl, Nat.le_of_ble_eq_true rfl⟩ (by decide) (c_R E _) rfl rfl hl.1 rfl (Nat.le_of_ble_eq_true rfl) dL_law_954 ⟨Nat.le_of_ble_eq_true rfl, Nat.le_of_ble_eq_true rfl⟩) (fun H locs hw => ?_)
  refine lv_icmp_eq (tgt := 1162) hf.1 hf.2.1 dL_law_957 (by decide) (fun _ => ?_) (fun cc => absurd e7.1 cc)
  exact kk _ _ _ hw (inv_mono e7.2 (by omega))
set_option maxHeartbeats 4000000 in
set_option maxRecDepth 100000 in
theorem lc_22 (hf : CallFix p m c code 4 s #[Value.ref b] wsL_law RL) (hl : lv_has ls 4 (lvL E b x3)) (hw : Wk E μ s H locs) (hX : va_X b L xs s s.heap) (hbl : b < s.heap.size) (hbA : ¬ inE E b) (hi : ∀ k, k < 5 → vp_in (x3 + nI k) L) (h : Inv B μ) (hB : B + 61 < 2 ^ 30) (kk : ∀ (H : Heap) (locs : List Loc) (μ : Mu), Wk E μ s H locs → Inv (B + 61) μ → W p l e room_1 s m #[Value.ref b] below meth c H locs 240 3758 Q (F0 m 1162 ls [])) : W p l e room_1 s m #[Value.ref b] below meth c H locs 240 3758 Q (F0 m 962 ls []) := by
  have e7 := st_scan h (by omega) 
  have q7 : H7 μ.1 (sp_X7_scan μ ).2 := h7_X7_scan μ  (fun c hc => rec_7 h hc) (fun _ _ => rfl)
  refine lv_aload_n hf.1 hf.2.1 dL_law_962 rfl (lv_at hl 1 rfl) ?_
  refine c_i hw (run_V (As := []) (rest := []) (np := 0) hf hw (k_X7_scan l E _  (inv_K h)) ⟨gl_V q793 q794 q795 q2 q796, by decide +kernel⟩ ⟨rfl, rfl, Nat.le_of_ble_eq_true rfl, Nat.le_of_ble_eq_true rfl⟩ (by decide) (c_O E _) rfl rfl hl.1 rfl (Nat.le_of_ble_eq_true rfl) dL_law_963 ⟨Nat.le_of_ble_eq_true rfl, Nat.le_of_ble_eq_true rfl⟩) (fun H locs hw => ?_)
  generalize (sp_X7_scan μ ) = a at *
  refine lv_aload_n hf.1 hf.2.1 dL_law_966 rfl (lv_at hl 2 rfl) ?_
  refine c_i hw (run_V (As := []) (rest := [.int a.1]) (np := 0) hf hw (k_X8_scan l E _  (x_G h q7) (x_S h q7) (x_st h q7)) ⟨gl_V q802 q803 q804 q5 q805, by decide +kernel⟩ ⟨rfl, rfl, Nat.le_of_ble_eq_true rfl, Nat.le_of_ble_eq_true rfl⟩ (by decide) (c_R E _) rfl rfl hl.1 rfl (Nat.le_of_ble_eq_true rfl) dL_law_967 ⟨Nat.le_of_ble_eq_true rfl, Nat.le_of_ble_eq_true rfl⟩) (fun H locs hw => ?_)
  refine lv_icmp_eq (tgt := 1162) hf.1 hf.2.1 dL_law_970 (by decide) (fun _ => ?_) (fun cc => absurd e7.1 cc)
  exact kk _ _ _ hw (inv_mono e7.2 (by omega))
set_option maxHeartbeats 4000000 in
set_option maxRecDepth 100000 in
theorem lc_23 (hf : CallFix p m c code 4 s #[Value.ref b] wsL_law RL) (hl : lv_has ls 4 (lvL E b x3)) (hw : Wk E μ s H locs) (hX : va_X b L xs s s.heap) (hbl : b < s.heap.size) (hbA : ¬ inE E b) (hi : ∀ k, k < 5 → vp_in (x3 + nI k) L) (h : Inv B μ) (hB : B + 61 < 2 ^ 30) (kk : ∀ (H : Heap) (locs : List Loc) (μ : Mu), Wk E μ s H locs → Inv (B + 61) μ → W p l e room_1 s m #[Value.ref b] below meth c H locs 240 3758 Q (F0 m 1162 ls [])) : W p l e room_1 s m #[Value.ref b] below meth c H locs 240 3758 Q (F0 m 975 ls []) := by
  have e7 := st_readingAt h (by omega) (xs (x3 + 1).toNatClampNeg) (xs (x3 + 2).toNatClampNeg)
  have q7 : H7 μ.1 μ := fun _ _ => rfl
  refine lv_aload_n hf.1 hf.2.1 dL_law_975 rfl (lv_at hl 1 rfl) ?_
  refine pushA hf hl hw hX hbl hbA (v := 1) (by decide) (hi 1 (by decide)) dL_law_976 dL_law_977 dL_law_978 dL_law_979 dL_law_980 ?_
  refine pushA hf hl hw hX hbl hbA (v := 2) (by decide) (hi 2 (by decide)) dL_law_981 dL_law_982 dL_law_983 dL_law_984 dL_law_985 ?_
  refine c_iR hw (run_V (As := [.int (xs (x3 + 1).toNatClampNeg), .int (xs (x3 + 2).toNatClampNeg)]) (rest := []) (np := 2) hf hw (k_X7_readingAt l E _ (xs (x3 + 1).toNatClampNeg) (xs (x3 + 2).toNatClampNeg) ) ⟨gl_V q810 q811 q812 q2 q813, by decide +kernel⟩ ⟨rfl, rfl, Nat.le_of_ble_eq_true rfl, Nat.le_of_ble_eq_true rfl⟩ (by decide) (c_O E _) rfl rfl hl.1 rfl (Nat.le_of_ble_eq_true rfl) dL_law_986 ⟨Nat.le_of_ble_eq_true rfl, Nat.le_of_ble_eq_true rfl⟩) (fun H locs hw => ?_)
  refine lv_aload_n hf.1 hf.2.1 dL_law_989 rfl (lv_at hl 2 rfl) ?_
  refine pushA hf hl hw hX hbl hbA (v := 1) (by decide) (hi 1 (by decide)) dL_law_990 dL_law_991 dL_law_992 dL_law_993 dL_law_994 ?_
  refine pushA hf hl hw hX hbl hbA (v := 2) (by decide) (hi 2 (by decide)) dL_law_995 dL_law_996 dL_law_997 dL_law_998 dL_law_999 ?_
  refine c_iR hw (run_V (As := [.int (xs (x3 + 1).toNatClampNeg), .int (xs (x3 + 2).toNatClampNeg)]) (rest := [.int (sp_X7_readingAt (μ.1 0) (xs (x3 + 1).toNatClampNeg) (xs (x3 + 2).toNatClampNeg))]) (np := 2) hf hw (k_X8_readingAt l E _ (xs (x3 + 1).toNatClampNeg) (xs (x3 + 2).toNatClampNeg) (x_RI h q7)) ⟨gl_V q823 q824 q825 q5 q826, by decide +kernel⟩ ⟨rfl, rfl, Nat.le_of_ble_eq_true rfl, Nat.le_of_ble_eq_true rfl⟩ (by decide) (c_R E _) rfl rfl hl.1 rfl (Nat.le_of_ble_eq_true rfl) dL_law_1000 ⟨Nat.le_of_ble_eq_true rfl, Nat.le_of_ble_eq_true rfl⟩) (fun H locs hw => ?_)
  refine lv_icmp_eq (tgt := 1162) hf.1 hf.2.1 dL_law_1003 (by decide) (fun _ => ?_) (fun cc => absurd e7.1 cc)
  exact kk _ _ _ hw (inv_mono e7.2 (by omega))
set_option maxHeartbeats 4000000 in
set_option maxRecDepth 100000 in
theorem lc_24 (hf : CallFix p m c code 4 s #[Value.ref b] wsL_law RL) (hl : lv_has ls 4 (lvL E b x3)) (hw : Wk E μ s H locs) (hX : va_X b L xs s s.heap) (hbl : b < s.heap.size) (hbA : ¬ inE E b) (hi : ∀ k, k < 5 → vp_in (x3 + nI k) L) (h : Inv B μ) (hB : B + 61 < 2 ^ 30) (kk : ∀ (H : Heap) (locs : List Loc) (μ : Mu), Wk E μ s H locs → Inv (B + 61) μ → W p l e room_1 s m #[Value.ref b] below meth c H locs 240 3758 Q (F0 m 1162 ls [])) : W p l e room_1 s m #[Value.ref b] below meth c H locs 240 3758 Q (F0 m 1008 ls []) := by
  have e7 := st_median h (by omega) (xs (x3 + 1).toNatClampNeg)
  have q7 : H7 μ.1 (sp_X7_median μ (xs (x3 + 1).toNatClampNeg)).2 := h7_X7_median μ (xs (x3 + 1).toNatClampNeg) (fun _ _ => rfl)
  refine lv_aload_n hf.1 hf.2.1 dL_law_1008 rfl (lv_at hl 1 rfl) ?_
  refine pushA hf hl hw hX hbl hbA (v := 1) (by decide) (hi 1 (by decide)) dL_law_1009 dL_law_1010 dL_law_1011 dL_law_1012 dL_law_1013 ?_
  refine c_i hw (run_V (As := [.int (xs (x3 + 1).toNatClampNeg)]) (rest := []) (np := 1) hf hw (k_X7_median l E _ (xs (x3 + 1).toNatClampNeg) ) ⟨gl_V q827 q828 q829 q2 q830, by decide +kernel⟩ ⟨rfl, rfl, Nat.le_of_ble_eq_true rfl, Nat.le_of_ble_eq_true rfl⟩ (by decide) (c_O E _) rfl rfl hl.1 rfl (Nat.le_of_ble_eq_true rfl) dL_law_1014 ⟨Nat.le_of_ble_eq_true rfl, Nat.le_of_ble_eq_true rfl⟩) (fun H locs hw => ?_)
  generalize (sp_X7_median μ (xs (x3 + 1).toNatClampNeg)) = a at *
  refine lv_aload_n hf.1 hf.2.1 dL_law_1017 rfl (lv_at hl 2 rfl) ?_
  refine pushA hf hl hw hX hbl hbA (v := 1) (by decide) (hi 1 (by decide)) dL_law_1018 dL_law_1019 dL_law_1020 dL_law_1021 dL_law_1022 ?_
  refine c_i hw (run_V (As := [.int (xs (x3 + 1).toNatClampNeg)]) (rest := [.int a.1]) (np := 1) hf hw (k_X8_median l E _ (xs (x3 + 1).toNatClampNeg) (x_RI h q7) (x_m h q7)) ⟨gl_V q836 q837 q838 q5 q839, by decide +kernel⟩ ⟨rfl, rfl, Nat.le_of_ble_eq_true rfl, Nat.le_of_ble_eq_true rfl⟩ (by decide) (c_R E _) rfl rfl hl.1 rfl (Nat.le_of_ble_eq_true rfl) dL_law_1023 ⟨Nat.le_of_ble_eq_true rfl, Nat.le_of_ble_eq_true rfl⟩) (fun H locs hw => ?_)
  refine lv_icmp_eq (tgt := 1162) hf.1 hf.2.1 dL_law_1026 (by decide) (fun _ => ?_) (fun cc => absurd e7.1 cc)
  exact kk _ _ _ hw (inv_mono e7.2 (by omega))
set_option maxHeartbeats 4000000 in
set_option maxRecDepth 100000 in
theorem lc_25 (hf : CallFix p m c code 4 s #[Value.ref b] wsL_law RL) (hl : lv_has ls 4 (lvL E b x3)) (hw : Wk E μ s H locs) (hX : va_X b L xs s s.heap) (hbl : b < s.heap.size) (hbA : ¬ inE E b) (hi : ∀ k, k < 5 → vp_in (x3 + nI k) L) (h : Inv B μ) (hB : B + 61 < 2 ^ 30) (kk : ∀ (H : Heap) (locs : List Loc) (μ : Mu), Wk E μ s H locs → Inv (B + 61) μ → W p l e room_1 s m #[Value.ref b] below meth c H locs 240 3758 Q (F0 m 1162 ls [])) : W p l e room_1 s m #[Value.ref b] below meth c H locs 240 3758 Q (F0 m 1031 ls []) := by
  have e7 := st_meanBits h (by omega) (xs (x3 + 1).toNatClampNeg)
  have q7 : H7 μ.1 μ := fun _ _ => rfl
  refine lv_aload_n hf.1 hf.2.1 dL_law_1031 rfl (lv_at hl 1 rfl) ?_
  refine pushA hf hl hw hX hbl hbA (v := 1) (by decide) (hi 1 (by decide)) dL_law_1032 dL_law_1033 dL_law_1034 dL_law_1035 dL_law_1036 ?_
  refine c_iR hw (run_V (As := [.int (xs (x3 + 1).toNatClampNeg)]) (rest := []) (np := 1) hf hw (k_X7_meanBits l E _ (xs (x3 + 1).toNatClampNeg) ) ⟨gl_V q840 q841 q842 q2 q843, by decide +kernel⟩ ⟨rfl, rfl, Nat.le_of_ble_eq_true rfl, Nat.le_of_ble_eq_true rfl⟩ (by decide) (c_O E _) rfl rfl hl.1 rfl (Nat.le_of_ble_eq_true rfl) dL_law_1037 ⟨Nat.le_of_ble_eq_true rfl, Nat.le_of_ble_eq_true rfl⟩) (fun H locs hw => ?_)
  refine lv_aload_n hf.1 hf.2.1 dL_law_1040 rfl (lv_at hl 2 rfl) ?_
  refine pushA hf hl hw hX hbl hbA (v := 1) (by decide) (hi 1 (by decide)) dL_law_1041 dL_law_1042 dL_law_1043 dL_law_1044 dL_law_1045 ?_
  refine c_iR hw (run_V (As := [.int (xs (x3 + 1).toNatClampNeg)]) (rest := [.int (sp_X7_meanBits (μ.1 0) (xs (x3 + 1).toNatClampNeg))]) (np := 1) hf hw (k_X8_meanBits l E _ (xs (x3 + 1).toNatClampNeg) (x_RI h q7)) ⟨gl_V q850 q851 q852 q5 q853, by decide +kernel⟩ ⟨rfl, rfl, Nat.le_of_ble_eq_true rfl, Nat.le_of_ble_eq_true rfl⟩ (by decide) (c_R E _) rfl rfl hl.1 rfl (Nat.le_of_ble_eq_true rfl) dL_law_1046 ⟨Nat.le_of_ble_eq_true rfl, Nat.le_of_ble_eq_true rfl⟩) (fun H locs hw => ?_)
  refine lv_icmp_eq (tgt := 1162) hf.1 hf.2.1 dL_law_1049 (by decide) (fun _ => ?_) (fun cc => absurd e7.1 cc)
  exact kk _ _ _ hw (inv_mono e7.2 (by omega))
set_option maxHeartbeats 4000000 in
set_option maxRecDepth 100000 in
theorem lc_26 (hf : CallFix p m c code 4 s #[Value.ref b] wsL_law RL) (hl : lv_has ls 4 (lvL E b x3)) (hw : Wk E μ s H locs) (hX : va_X b L xs s s.heap) (hbl : b < s.heap.size) (hbA : ¬ inE E b) (hi : ∀ k, k < 5 → vp_in (x3 + nI k) L) (h : Inv B μ) (hB : B + 61 < 2 ^ 30) (kk : ∀ (H : Heap) (locs : List Loc) (μ : Mu), Wk E μ s H locs → Inv (B + 61) μ → W p l e room_1 s m #[Value.ref b] below meth c H locs 240 3758 Q (F0 m 1162 ls [])) : W p l e room_1 s m #[Value.ref b] below meth c H locs 240 3758 Q (F0 m 1054 ls []) := by
  have e7 := st_count h (xs (x3 + 1).toNatClampNeg)
  have q7 : H7 μ.1 μ := fun _ _ => rfl
  refine lv_aload_n hf.1 hf.2.1 dL_law_1054 rfl (lv_at hl 1 rfl) ?_
  refine pushA hf hl hw hX hbl hbA (v := 1) (by decide) (hi 1 (by decide)) dL_law_1055 dL_law_1056 dL_law_1057 dL_law_1058 dL_law_1059 ?_
  refine c_iR hw (run_V (As := [.int (xs (x3 + 1).toNatClampNeg)]) (rest := []) (np := 1) hf hw (k_X7_count l E _ (xs (x3 + 1).toNatClampNeg) ) ⟨gl_V q867 q868 q869 q2 q870, by decide +kernel⟩ ⟨rfl, rfl, Nat.le_of_ble_eq_true rfl, Nat.le_of_ble_eq_true rfl⟩ (by decide) (c_O E _) rfl rfl hl.1 rfl (Nat.le_of_ble_eq_true rfl) dL_law_1060 ⟨Nat.le_of_ble_eq_true rfl, Nat.le_of_ble_eq_true rfl⟩) (fun H locs hw => ?_)
  refine lv_aload_n hf.1 hf.2.1 dL_law_1063 rfl (lv_at hl 2 rfl) ?_
  refine pushA hf hl hw hX hbl hbA (v := 1) (by decide) (hi 1 (by decide)) dL_law_1064 dL_law_1065 dL_law_1066 dL_law_1067 dL_law_1068 ?_
  refine c_iR hw (run_V (As := [.int (xs (x3 + 1).toNatClampNeg)]) (rest := [.int (sp_X7_count μ.1 (xs (x3 + 1).toNatClampNeg))]) (np := 1) hf hw (k_X8_count l E _ (xs (x3 + 1).toNatClampNeg) (x_RI h q7)) ⟨gl_V q892 q893 q894 q5 q895, by decide +kernel⟩ ⟨rfl, rfl, Nat.le_of_ble_eq_true rfl, Nat.le_of_ble_eq_true rfl⟩ (by decide) (c_R E _) rfl rfl hl.1 rfl (Nat.le_of_ble_eq_true rfl) dL_law_1069 ⟨Nat.le_of_ble_eq_true rfl, Nat.le_of_ble_eq_true rfl⟩) (fun H locs hw => ?_)
  refine lv_icmp_eq (tgt := 1162) hf.1 hf.2.1 dL_law_1072 (by decide) (fun _ => ?_) (fun cc => absurd e7.1 cc)
  exact kk _ _ _ hw (inv_mono e7.2 (by omega))
set_option maxHeartbeats 4000000 in
set_option maxRecDepth 100000 in
theorem lc_27 (hf : CallFix p m c code 4 s #[Value.ref b] wsL_law RL) (hl : lv_has ls 4 (lvL E b x3)) (hw : Wk E μ s H locs) (hX : va_X b L xs s s.heap) (hbl : b < s.heap.size) (hbA : ¬ inE E b) (hi : ∀ k, k < 5 → vp_in (x3 + nI k) L) (h : Inv B μ) (hB : B + 61 < 2 ^ 30) (kk : ∀ (H : Heap) (locs : List Loc) (μ : Mu), Wk E μ s H locs → Inv (B + 61) μ → W p l e room_1 s m #[Value.ref b] below meth c H locs 240 3758 Q (F0 m 1162 ls [])) : W p l e room_1 s m #[Value.ref b] below meth c H locs 240 3758 Q (F0 m 1077 ls []) := by
  have e7 := st_undo h 
  have q7 : H7 μ.1 (sp_X7_undo μ ).2 := h7_X7_undo μ  (fun _ _ => rfl)
  refine lv_aload_n hf.1 hf.2.1 dL_law_1077 rfl (lv_at hl 1 rfl) ?_
  refine c_i hw (run_V (As := []) (rest := []) (np := 0) hf hw (k_X7_undo l E _  (inv_K h)) ⟨gl_V q897 q898 q899 q2 q900, by decide +kernel⟩ ⟨rfl, rfl, Nat.le_of_ble_eq_true rfl, Nat.le_of_ble_eq_true rfl⟩ (by decide) (c_O E _) rfl rfl hl.1 rfl (Nat.le_of_ble_eq_true rfl) dL_law_1078 ⟨Nat.le_of_ble_eq_true rfl, Nat.le_of_ble_eq_true rfl⟩) (fun H locs hw => ?_)
  generalize (sp_X7_undo μ ) = a at *
  refine lv_aload_n hf.1 hf.2.1 dL_law_1081 rfl (lv_at hl 2 rfl) ?_
  refine c_i hw (run_V (As := []) (rest := [.int a.1]) (np := 0) hf hw (k_X8_undo l E _  (x_st h q7)) ⟨gl_V q905 q906 q907 q5 q908, by decide +kernel⟩ ⟨rfl, rfl, Nat.le_of_ble_eq_true rfl, Nat.le_of_ble_eq_true rfl⟩ (by decide) (c_R E _) rfl rfl hl.1 rfl (Nat.le_of_ble_eq_true rfl) dL_law_1082 ⟨Nat.le_of_ble_eq_true rfl, Nat.le_of_ble_eq_true rfl⟩) (fun H locs hw => ?_)
  refine lv_icmp_eq (tgt := 1162) hf.1 hf.2.1 dL_law_1085 (by decide) (fun _ => ?_) (fun cc => absurd e7.1 cc)
  exact kk _ _ _ hw (inv_mono e7.2 (by omega))
set_option maxHeartbeats 4000000 in
set_option maxRecDepth 100000 in
theorem lc_28 (hf : CallFix p m c code 4 s #[Value.ref b] wsL_law RL) (hl : lv_has ls 4 (lvL E b x3)) (hw : Wk E μ s H locs) (hX : va_X b L xs s s.heap) (hbl : b < s.heap.size) (hbA : ¬ inE E b) (hi : ∀ k, k < 5 → vp_in (x3 + nI k) L) (h : Inv B μ) (hB : B + 61 < 2 ^ 30) (kk : ∀ (H : Heap) (locs : List Loc) (μ : Mu), Wk E μ s H locs → Inv (B + 61) μ → W p l e room_1 s m #[Value.ref b] below meth c H locs 240 3758 Q (F0 m 1162 ls [])) : W p l e room_1 s m #[Value.ref b] below meth c H locs 240 3758 Q (F0 m 1090 ls []) := by
  have e7 := st_type h (xs (x3 + 1).toNatClampNeg)
  have q7 : H7 μ.1 (sp_X7_type μ (xs (x3 + 1).toNatClampNeg)).2 := h7_X7_type μ (xs (x3 + 1).toNatClampNeg) (fun _ _ => rfl)
  refine lv_aload_n hf.1 hf.2.1 dL_law_1090 rfl (lv_at hl 1 rfl) ?_
  refine pushA hf hl hw hX hbl hbA (v := 1) (by decide) (hi 1 (by decide)) dL_law_1091 dL_law_1092 dL_law_1093 dL_law_1094 dL_law_1095 ?_
  refine c_i hw (run_V (As := [.int (xs (x3 + 1).toNatClampNeg)]) (rest := []) (np := 1) hf hw (k_X7_type l E _ (xs (x3 + 1).toNatClampNeg) (inv_6 h)) ⟨gl_V q909 q910 q911 q2 q912, by decide +kernel⟩ ⟨rfl, rfl, Nat.le_of_ble_eq_true rfl, Nat.le_of_ble_eq_true rfl⟩ (by decide) (c_O E _) rfl rfl hl.1 rfl (Nat.le_of_ble_eq_true rfl) dL_law_1096 ⟨Nat.le_of_ble_eq_true rfl, Nat.le_of_ble_eq_true rfl⟩) (fun H locs hw => ?_)
  generalize (sp_X7_type μ (xs (x3 + 1).toNatClampNeg)) = a at *
  refine lv_aload_n hf.1 hf.2.1 dL_law_1099 rfl (lv_at hl 2 rfl) ?_
  refine pushA hf hl hw hX hbl hbA (v := 1) (by decide) (hi 1 (by decide)) dL_law_1100 dL_law_1101 dL_law_1102 dL_law_1103 dL_law_1104 ?_
  refine c_i hw (run_V (As := [.int (xs (x3 + 1).toNatClampNeg)]) (rest := [.int a.1]) (np := 1) hf hw (k_X8_type l E _ (xs (x3 + 1).toNatClampNeg) (x_ty h q7)) ⟨gl_V q920 q921 q922 q5 q923, by decide +kernel⟩ ⟨rfl, rfl, Nat.le_of_ble_eq_true rfl, Nat.le_of_ble_eq_true rfl⟩ (by decide) (c_R E _) rfl rfl hl.1 rfl (Nat.le_of_ble_eq_true rfl) dL_law_1105 ⟨Nat.le_of_ble_eq_true rfl, Nat.le_of_ble_eq_true rfl⟩) (fun H locs hw => ?_)
  refine lv_icmp_eq (tgt := 1162) hf.1 hf.2.1 dL_law_1108 (by decide) (fun _ => ?_) (fun cc => absurd e7.1 cc)
  exact kk _ _ _ hw (inv_mono e7.2 (by omega))
set_option maxHeartbeats 4000000 in
set_option maxRecDepth 100000 in
theorem lc_29 (hf : CallFix p m c code 4 s #[Value.ref b] wsL_law RL) (hl : lv_has ls 4 (lvL E b x3)) (hw : Wk E μ s H locs) (hX : va_X b L xs s s.heap) (hbl : b < s.heap.size) (hbA : ¬ inE E b) (hi : ∀ k, k < 5 → vp_in (x3 + nI k) L) (h : Inv B μ) (hB : B + 61 < 2 ^ 30) (kk : ∀ (H : Heap) (locs : List Loc) (μ : Mu), Wk E μ s H locs → Inv (B + 61) μ → W p l e room_1 s m #[Value.ref b] below meth c H locs 240 3758 Q (F0 m 1162 ls [])) : W p l e room_1 s m #[Value.ref b] below meth c H locs 240 3758 Q (F0 m 1113 ls []) := by
  have e7 := st_clearText h 
  have q7 : H7 μ.1 (sp_X7_clearText μ ).2 := h7_X7_clearText μ  (fun _ _ => rfl)
  refine lv_aload_n hf.1 hf.2.1 dL_law_1113 rfl (lv_at hl 1 rfl) ?_
  refine c_i hw (run_V (As := []) (rest := []) (np := 0) hf hw (k_X7_clearText l E _  ) ⟨gl_V q924 q925 q926 q2 q927, by decide +kernel⟩ ⟨rfl, rfl, Nat.le_of_ble_eq_true rfl, Nat.le_of_ble_eq_true rfl⟩ (by decide) (c_O E _) rfl rfl hl.1 rfl (Nat.le_of_ble_eq_true rfl) dL_law_1114 ⟨Nat.le_of_ble_eq_true rfl, Nat.le_of_ble_eq_true rfl⟩) (fun H locs hw => ?_)
  generalize (sp_X7_clearText μ ) = a at *
  refine lv_aload_n hf.1 hf.2.1 dL_law_1117 rfl (lv_at hl 2 rfl) ?_
  refine c_i hw (run_V (As := []) (rest := [.int a.1]) (np := 0) hf hw (k_X8_clearText l E _  ) ⟨gl_V q928 q929 q930 q5 q931, by decide +kernel⟩ ⟨rfl, rfl, Nat.le_of_ble_eq_true rfl, Nat.le_of_ble_eq_true rfl⟩ (by decide) (c_R E _) rfl rfl hl.1 rfl (Nat.le_of_ble_eq_true rfl) dL_law_1118 ⟨Nat.le_of_ble_eq_true rfl, Nat.le_of_ble_eq_true rfl⟩) (fun H locs hw => ?_)
  refine lv_icmp_eq (tgt := 1162) hf.1 hf.2.1 dL_law_1121 (by decide) (fun _ => ?_) (fun cc => absurd e7.1 cc)
  exact kk _ _ _ hw (inv_mono e7.2 (by omega))
set_option maxHeartbeats 4000000 in
set_option maxRecDepth 100000 in
theorem lc_30 (hf : CallFix p m c code 4 s #[Value.ref b] wsL_law RL) (hl : lv_has ls 4 (lvL E b x3)) (hw : Wk E μ s H locs) (hX : va_X b L xs s s.heap) (hbl : b < s.heap.size) (hbA : ¬ inE E b) (hi : ∀ k, k < 5 → vp_in (x3 + nI k) L) (h : Inv B μ) (hB : B + 61 < 2 ^ 30) (kk : ∀ (H : Heap) (locs : List Loc) (μ : Mu), Wk E μ s H locs → Inv (B + 61) μ → W p l e room_1 s m #[Value.ref b] below meth c H locs 240 3758 Q (F0 m 1162 ls [])) : W p l e room_1 s m #[Value.ref b] below meth c H locs 240 3758 Q (F0 m 1126 ls []) := by
  have e7 := st_fault h hB (xs (x3 + 1).toNatClampNeg)
  have q7 : H7 μ.1 (sp_X7_fault μ (xs (x3 + 1).toNatClampNeg)).2 := h7_X7_fault μ (xs (x3 + 1).toNatClampNeg) (fun _ _ => rfl)
  refine lv_aload_n hf.1 hf.2.1 dL_law_1126 rfl (lv_at hl 1 rfl) ?_
  refine pushA hf hl hw hX hbl hbA (v := 1) (by decide) (hi 1 (by decide)) dL_law_1127 dL_law_1128 dL_law_1129 dL_law_1130 dL_law_1131 ?_
  refine c_i hw (run_V (As := [.int (xs (x3 + 1).toNatClampNeg)]) (rest := []) (np := 1) hf hw (k_X7_fault l E _ (xs (x3 + 1).toNatClampNeg) (inv_6 h)) ⟨gl_V q932 q933 q934 q2 q935, by decide +kernel⟩ ⟨rfl, rfl, Nat.le_of_ble_eq_true rfl, Nat.le_of_ble_eq_true rfl⟩ (by decide) (c_O E _) rfl rfl hl.1 rfl (Nat.le_of_ble_eq_true rfl) dL_law_1132 ⟨Nat.le_of_ble_eq_true rfl, Nat.le_of_ble_eq_true rfl⟩) (fun H locs hw => ?_)
  generalize (sp_X7_fault μ (xs (x3 + 1).toNatClampNeg)) = a at *
  refine lv_aload_n hf.1 hf.2.1 dL_law_1135 rfl (lv_at hl 2 rfl) ?_
  refine pushA hf hl hw hX hbl hbA (v := 1) (by decide) (hi 1 (by decide)) dL_law_1136 dL_law_1137 dL_law_1138 dL_law_1139 dL_law_1140 ?_
  refine c_i hw (run_V (As := [.int (xs (x3 + 1).toNatClampNeg)]) (rest := [.int a.1]) (np := 1) hf hw (k_X8_fault l E _ (xs (x3 + 1).toNatClampNeg) (x_A h q7) (x_ty h q7)) ⟨gl_V q984 q985 q986 q5 q987, by decide +kernel⟩ ⟨rfl, rfl, Nat.le_of_ble_eq_true rfl, Nat.le_of_ble_eq_true rfl⟩ (by decide) (c_R E _) rfl rfl hl.1 rfl (Nat.le_of_ble_eq_true rfl) dL_law_1141 ⟨Nat.le_of_ble_eq_true rfl, Nat.le_of_ble_eq_true rfl⟩) (fun H locs hw => ?_)
  refine lv_icmp_eq (tgt := 1162) hf.1 hf.2.1 dL_law_1144 (by decide) (fun _ => ?_) (fun cc => absurd e7.1 cc)
  exact kk _ _ _ hw (inv_mono e7.2 (by omega))
set_option maxHeartbeats 4000000 in
set_option maxRecDepth 100000 in
theorem lc_31 (hf : CallFix p m c code 4 s #[Value.ref b] wsL_law RL) (hl : lv_has ls 4 (lvL E b x3)) (hw : Wk E μ s H locs) (hX : va_X b L xs s s.heap) (hbl : b < s.heap.size) (hbA : ¬ inE E b) (hi : ∀ k, k < 5 → vp_in (x3 + nI k) L) (h : Inv B μ) (hB : B + 61 < 2 ^ 30) (kk : ∀ (H : Heap) (locs : List Loc) (μ : Mu), Wk E μ s H locs → Inv (B + 61) μ → W p l e room_1 s m #[Value.ref b] below meth c H locs 240 3758 Q (F0 m 1162 ls [])) : W p l e room_1 s m #[Value.ref b] below meth c H locs 240 3758 Q (F0 m 1149 ls []) := by
  have e7 := st_play h hB 
  have q7 : H7 μ.1 (sp_X7_play μ ).2 := h7_X7_play h hB
  refine lv_aload_n hf.1 hf.2.1 dL_law_1149 rfl (lv_at hl 1 rfl) ?_
  refine c_i hw (run_V (As := []) (rest := []) (np := 0) hf hw (k_X7_play l E _  (inv_6 h) (inv_K h)) ⟨gl_V q1014 q1015 q1016 q2 q1017, by decide +kernel⟩ ⟨rfl, rfl, Nat.le_of_ble_eq_true rfl, Nat.le_of_ble_eq_true rfl⟩ (by decide) (c_O E _) rfl rfl hl.1 rfl (Nat.le_of_ble_eq_true rfl) dL_law_1150 ⟨Nat.le_of_ble_eq_true rfl, Nat.le_of_ble_eq_true rfl⟩) (fun H locs hw => ?_)
  generalize (sp_X7_play μ ) = a at *
  refine lv_aload_n hf.1 hf.2.1 dL_law_1153 rfl (lv_at hl 2 rfl) ?_
  refine c_i hw (run_V (As := []) (rest := [.int a.1]) (np := 0) hf hw (k_X8_play l E _  (x_A h q7) (x_ty h q7) (x_st h q7)) ⟨gl_V q1018 q1019 q1020 q5 q1021, by decide +kernel⟩ ⟨rfl, rfl, Nat.le_of_ble_eq_true rfl, Nat.le_of_ble_eq_true rfl⟩ (by decide) (c_R E _) rfl rfl hl.1 rfl (Nat.le_of_ble_eq_true rfl) dL_law_1154 ⟨Nat.le_of_ble_eq_true rfl, Nat.le_of_ble_eq_true rfl⟩) (fun H locs hw => ?_)
  refine lv_icmp_eq (tgt := 1162) hf.1 hf.2.1 dL_law_1157 (by decide) (fun _ => ?_) (fun cc => absurd e7.1 cc)
  exact kk _ _ _ hw (inv_mono e7.2 (by omega))
end LW
