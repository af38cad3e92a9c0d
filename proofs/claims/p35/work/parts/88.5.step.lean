/-! ===== the law: step ===== -/
section LV
variable {p : Program} {l : Launch} {e : Env} {s : State} {m : MethodId} {below : List Frame} {meth : Method} {c : Code} {H : Heap} {locs : List Loc} {Q : State → Prop}
variable {ls : Array Slot} {E : En} {μ : Mu} {b L : Nat} {xs : Nat → Int32}
set_option maxHeartbeats 8000000 in
set_option maxRecDepth 100000 in
theorem law_step (hf : CallFix p m c code 14 s #[Value.ref b] wsL_law RL) (hX : va_X b L xs s s.heap) (hbl : b < s.heap.size) (hbA : ¬ inE E b) (hL : L < 2 ^ 31) {k : Nat} (hk : k < 26) (h : Lk μ k) (hl : lv_has ls 14 [(3, .int (nI k)), (2, .int 1), (1, .ref (E.1 231)), (0, .ref b)]) (hw : Wk E μ s H locs)
    (kk : ∀ (μ : Mu) (H : Heap) (locs : List Loc) (ls : Array Slot), Lk μ (k + 1) → lv_has ls 14 [(3, .int (nI (k + 1))), (2, .int 1), (1, .ref (E.1 231)), (0, .ref b)] → Wk E μ s H locs → W p l e room_1 s m #[Value.ref b] below meth c H locs 232 1863 Q (F0 m 249 ls [])) : W p l e room_1 s m #[Value.ref b] below meth c H locs 232 1863 Q (F0 m 249 ls []) := by
  have hx := hf.1
  have hb := hf.2.1
  refine lv_iload_n hx hb dL_law_249 rfl (lv_at hl 0 rfl) ?_
  refine lv_bipush (v := 26) hx hb dL_law_250 (by decide) ?_
  refine lv_icmp_ge (tgt := 742) hx hb dL_law_252 (by decide) (fun c => absurd c (fun q => by have := (nI_leI (a := 26) (b := k) (by omega) (by omega)).mp q; omega)) (fun _ => ?_)
  refine lv_iload_n hx hb dL_law_255 rfl (lv_at hl 1 rfl) ?_
  refine lv_if_eq (tgt := 742) hx hb dL_law_256 (by decide) (fun c => absurd c (by decide)) (fun _ => ?_)
  refine lv_aload_n hx hb dL_law_259 rfl (lv_at hl 3 rfl) ?_
  refine lv_bipush (v := 24) hx hb dL_law_260 (by decide) ?_
  refine lv_iload_n hx hb dL_law_262 rfl (lv_at hl 0 rfl) ?_
  refine lv_iadd hx hb dL_law_263 ?_
  refine fold_i (show (24 + nI k : Int32) = nI (24 + k) from nI_add 24 k) ?_
  refine c_cell (k := nI (24 + k)) hf hw hX hbl hbA hL (nI_pos (by omega)) ⟨Nat.le_of_ble_eq_true rfl, Nat.le_of_ble_eq_true rfl⟩ hl.1 (Nat.le_of_ble_eq_true rfl) dL_law_264 ⟨Nat.le_of_ble_eq_true rfl, Nat.le_of_ble_eq_true rfl⟩ (fun r1 H locs hr1 hw => ?_)
  refine lv_istore (lv' := [(4, .int r1), (3, .int (nI k)), (2, .int 1), (1, .ref (E.1 231)), (0, .ref b)]) hx hb dL_law_267 hl (by decide) rfl (fun ls hl => ?_)
  refine lv_iload hx hb dL_law_269 (lv_at hl 0 rfl) ?_
  refine lv_bipush (v := 32) hx hb dL_law_271 (by decide) ?_
  refine lv_idiv hx hb dL_law_273 (by decide) ?_
  refine lv_topi (fun z ez => ?_)
  have hz : 0 ≤ z.toInt := by rw [ez]; exact (div_b hr1 (by decide)).1
  clear ez
  refine lv_istore (lv' := [(5, .int z), (4, .int r1), (3, .int (nI k)), (2, .int 1), (1, .ref (E.1 231)), (0, .ref b)]) hx hb dL_law_274 hl (by decide) rfl (fun ls hl => ?_)
  refine lv_iload hx hb dL_law_276 (lv_at hl 1 rfl) ?_
  refine lv_bipush (v := 8) hx hb dL_law_278 (by decide) ?_
  refine lv_idiv hx hb dL_law_280 (by decide) ?_
  refine lv_iconst (v := 4) hx hb dL_law_281 (by decide) ?_
  refine lv_irem hx hb dL_law_282 (by decide) ?_
  refine lv_topi (fun wi ewi => ?_)
  obtain ⟨n, hn, rfl⟩ : ∃ n : Nat, n < 4 ∧ wi = nI n := by rw [ewi]; exact rem_n2 (w := 4) rfl (div_b hr1 (by decide)).1 (by decide) (by decide)
  clear ewi
  refine lv_istore (lv' := [(6, .int (nI n)), (5, .int z), (4, .int r1), (3, .int (nI k)), (2, .int 1), (1, .ref (E.1 231)), (0, .ref b)]) hx hb dL_law_283 hl (by decide) rfl (fun ls hl => ?_)
  refine lv_iload hx hb dL_law_285 (lv_at hl 2 rfl) ?_
  refine lv_bipush (v := 8) hx hb dL_law_287 (by decide) ?_
  refine lv_irem hx hb dL_law_289 (by decide) ?_
  refine lv_topi (fun wj ewj => ?_)
  obtain ⟨j, hj, rfl⟩ : ∃ j : Nat, j < 8 ∧ wj = nI j := by rw [ewj]; exact rem_n2 (w := 8) rfl hr1 (by decide) (by decide)
  clear ewj
  match j, hj with
  | 0, _ => exact lv_tableIn (off := 42) (tgt := 332) hx hb dL_law_290 (by decide) (by decide) rfl (by decide) (law_0 hf hX hbl hbA hL hz hn hk h (lv_sub hl [0, 1, 2, 3, 4, 5, 6] rfl) hw (fun μ H locs ls h hl hw => law_tail hf hX hbl hbA hL hz h hl hw kk))
  | 1, _ => exact lv_tableIn (off := 54) (tgt := 344) hx hb dL_law_290 (by decide) (by decide) rfl (by decide) (law_1 hf hX hbl hbA hL hz hn hk h (lv_sub hl [0, 1, 2, 3, 4, 5, 6] rfl) hw (fun μ H locs ls h hl hw => law_tail hf hX hbl hbA hL hz h hl hw kk))
  | 2, _ => exact lv_tableIn (off := 54) (tgt := 344) hx hb dL_law_290 (by decide) (by decide) rfl (by decide) (law_1 hf hX hbl hbA hL hz hn hk h (lv_sub hl [0, 1, 2, 3, 4, 5, 6] rfl) hw (fun μ H locs ls h hl hw => law_tail hf hX hbl hbA hL hz h hl hw kk))
  | 3, _ => exact lv_tableIn (off := 64) (tgt := 354) hx hb dL_law_290 (by decide) (by decide) rfl (by decide) (law_3 hf hX hbl hbA hL hz hn hk h (lv_sub hl [0, 1, 2, 3, 4, 5, 6] rfl) hw (fun μ H locs ls h hl hw => law_tail hf hX hbl hbA hL hz h hl hw kk))
  | 4, _ => exact lv_tableIn (off := 166) (tgt := 456) hx hb dL_law_290 (by decide) (by decide) rfl (by decide) (law_4 hf hX hbl hbA hL hz hn hk h (lv_sub hl [0, 1, 2, 3, 4, 5, 6] rfl) hw (fun μ H locs ls h hl hw => law_tail hf hX hbl hbA hL hz h hl hw kk))
  | 5, _ => exact lv_tableIn (off := 239) (tgt := 529) hx hb dL_law_290 (by decide) (by decide) rfl (by decide) (law_5 hf hX hbl hbA hL hz hn hk h (lv_sub hl [0, 1, 2, 3, 4, 5, 6] rfl) hw (fun μ H locs ls h hl hw => law_tail hf hX hbl hbA hL hz h hl hw kk))
  | 6, _ => exact lv_tableIn (off := 312) (tgt := 602) hx hb dL_law_290 (by decide) (by decide) rfl (by decide) (law_6 hf hX hbl hbA hL hz hn hk h (lv_sub hl [0, 1, 2, 3, 4, 5, 6] rfl) hw (fun μ H locs ls h hl hw => law_tail hf hX hbl hbA hL hz h hl hw kk))
  | 7, _ => exact lv_tableOut (tgt := 664) hx hb dL_law_290 (by decide) (by decide) (law_7 hf hX hbl hbA hL hz hn hk h (lv_sub hl [0, 1, 2, 3, 4, 5, 6] rfl) hw (fun μ H locs ls h hl hw => law_tail hf hX hbl hbA hL hz h hl hw kk))
  | j + 8, hj => exact absurd hj (by omega)
end LV
