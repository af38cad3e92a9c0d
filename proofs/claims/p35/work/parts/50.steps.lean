/-! ===== the law: its steps ===== -/
section LW
variable {p : Program} {l : Launch} {e : Env} {s : State} {m : MethodId} {below : List Frame} {meth : Method} {c : Code} {H : Heap} {locs : List Loc} {Q : State → Prop}
variable {ls : Array Slot} {E : En} {μ : Mu} {b L : Nat} {xs : Nat → Int32}

set_option maxHeartbeats 8000000 in
set_option maxRecDepth 100000 in
theorem law_0 (hf : CallFix p m c code 14 s #[Value.ref b] wsL_law RL) (hX : va_X b L xs s s.heap) (hbl : b < s.heap.size) (hbA : ¬ inE E b) (hL : L < 2 ^ 31) {n k : Nat} {y z : Int32} (hz : 0 ≤ z.toInt) (hn : n < 4) (hk : k < 26) (h : Lk μ k) (hl : lv_has ls 14 [(6, .int (nI n)), (5, .int z), (4, .int y), (3, .int (nI k)), (2, .int 1), (1, .ref (E.1 231)), (0, .ref b)]) (hw : Wk E μ s H locs)
    (kk : ∀ (μ : Mu) (H : Heap) (locs : List Loc) (ls : Array Slot), Lk μ (k + 1) → lv_has ls 14 [(2, .int 1), (3, .int (nI k)), (5, .int z), (1, .ref (E.1 231)), (0, .ref b)] → Wk E μ s H locs → W p l e room_1 s m #[Value.ref b] below meth c H locs 232 1863 Q (F0 m 717 ls [])) : W p l e room_1 s m #[Value.ref b] below meth c H locs 232 1863 Q (F0 m 332 ls []) := by
  have hx := hf.1
  have hb := hf.2.1
  refine lv_aload_n hx hb dL_law_332 rfl (lv_at hl 5 rfl) ?_
  refine lv_iload hx hb dL_law_333 (lv_at hl 0 rfl) ?_
  refine lv_iload hx hb dL_law_335 (lv_at hl 1 rfl) ?_
  refine c_i1 hw (run_S (As := [.ref (E.1 231), .int (nI n), .int z]) (rest := []) (np := 3) hf hw (k_L_leads l E _ (T := 2) (N := 4) (B := k) (k := n) h.1 hn h.2.2 hz) ⟨gl_S q482 q483 q96 q484, by decide +kernel⟩ ⟨rfl, rfl, Nat.le_of_ble_eq_true rfl, Nat.le_of_ble_eq_true rfl⟩ rfl hl.1 rfl (Nat.le_of_ble_eq_true rfl) dL_law_337 ⟨Nat.le_of_ble_eq_true rfl, Nat.le_of_ble_eq_true rfl⟩) (fun μ1 H locs s1 hw => ?_)
  refine lv_istore_n (lv' := [(2, .int 1), (6, .int (nI n)), (5, .int z), (4, .int y), (3, .int (nI k)), (1, .ref (E.1 231)), (0, .ref b)]) hx hb dL_law_340 rfl hl (by decide) rfl (fun ls hl => ?_)
  refine lv_goto (tgt := 717) hx hb dL_law_341 (by decide) ?_
  exact kk _ _ _ _ ⟨by rw [s1.1]; exact gd_mono h.1 (Nat.le_succ _), by rw [s1.1]; exact h.2.1, s1.2⟩ (lv_sub hl [0, 4, 2, 5, 6] rfl) hw

set_option maxHeartbeats 8000000 in
set_option maxRecDepth 100000 in
theorem law_1 (hf : CallFix p m c code 14 s #[Value.ref b] wsL_law RL) (hX : va_X b L xs s s.heap) (hbl : b < s.heap.size) (hbA : ¬ inE E b) (hL : L < 2 ^ 31) {n k : Nat} {y z : Int32} (hz : 0 ≤ z.toInt) (hn : n < 4) (hk : k < 26) (h : Lk μ k) (hl : lv_has ls 14 [(6, .int (nI n)), (5, .int z), (4, .int y), (3, .int (nI k)), (2, .int 1), (1, .ref (E.1 231)), (0, .ref b)]) (hw : Wk E μ s H locs)
    (kk : ∀ (μ : Mu) (H : Heap) (locs : List Loc) (ls : Array Slot), Lk μ (k + 1) → lv_has ls 14 [(2, .int 1), (3, .int (nI k)), (5, .int z), (1, .ref (E.1 231)), (0, .ref b)] → Wk E μ s H locs → W p l e room_1 s m #[Value.ref b] below meth c H locs 232 1863 Q (F0 m 717 ls [])) : W p l e room_1 s m #[Value.ref b] below meth c H locs 232 1863 Q (F0 m 344 ls []) := by
  have hx := hf.1
  have hb := hf.2.1
  refine lv_aload_n hx hb dL_law_344 rfl (lv_at hl 5 rfl) ?_
  refine lv_iload hx hb dL_law_345 (lv_at hl 0 rfl) ?_
  refine c_i1 hw (run_S (As := [.ref (E.1 231), .int (nI n)]) (rest := []) (np := 2) hf hw (k_L_reads l E _ (T := 2) (N := 4) (B := k) (k := n) h.1 hn (by omega) h.2.2) ⟨gl_S q503 q504 q96 q505, by decide +kernel⟩ ⟨rfl, rfl, Nat.le_of_ble_eq_true rfl, Nat.le_of_ble_eq_true rfl⟩ rfl hl.1 rfl (Nat.le_of_ble_eq_true rfl) dL_law_347 ⟨Nat.le_of_ble_eq_true rfl, Nat.le_of_ble_eq_true rfl⟩) (fun μ1 H locs s1 hw => ?_)
  refine lv_istore_n (lv' := [(2, .int 1), (6, .int (nI n)), (5, .int z), (4, .int y), (3, .int (nI k)), (1, .ref (E.1 231)), (0, .ref b)]) hx hb dL_law_350 rfl hl (by decide) rfl (fun ls hl => ?_)
  refine lv_goto (tgt := 717) hx hb dL_law_351 (by decide) ?_
  exact kk _ _ _ _ ⟨s1.1, s1.2.2.trans h.2.1, s1.2.1⟩ (lv_sub hl [0, 4, 2, 5, 6] rfl) hw

set_option maxHeartbeats 8000000 in
set_option maxRecDepth 100000 in
theorem law_3 (hf : CallFix p m c code 14 s #[Value.ref b] wsL_law RL) (hX : va_X b L xs s s.heap) (hbl : b < s.heap.size) (hbA : ¬ inE E b) (hL : L < 2 ^ 31) {n k : Nat} {y z : Int32} (hz : 0 ≤ z.toInt) (hn : n < 4) (hk : k < 26) (h : Lk μ k) (hl : lv_has ls 14 [(6, .int (nI n)), (5, .int z), (4, .int y), (3, .int (nI k)), (2, .int 1), (1, .ref (E.1 231)), (0, .ref b)]) (hw : Wk E μ s H locs)
    (kk : ∀ (μ : Mu) (H : Heap) (locs : List Loc) (ls : Array Slot), Lk μ (k + 1) → lv_has ls 14 [(2, .int 1), (3, .int (nI k)), (5, .int z), (1, .ref (E.1 231)), (0, .ref b)] → Wk E μ s H locs → W p l e room_1 s m #[Value.ref b] below meth c H locs 232 1863 Q (F0 m 717 ls [])) : W p l e room_1 s m #[Value.ref b] below meth c H locs 232 1863 Q (F0 m 354 ls []) := by
  have hx := hf.1
  have hb := hf.2.1
  refine lv_aload_n hx hb dL_law_354 rfl (lv_at hl 5 rfl) ?_
  refine lv_iload hx hb dL_law_355 (lv_at hl 0 rfl) ?_
  refine lv_iconst (v := 4) hx hb dL_law_357 (by decide) ?_
  refine c_iV (v := μ.1 0 (sF n 4)) (P := fun z => Same μ z) (a_s4 Same.rf h.1.2.1.2 (show 4 ≤ 6 by decide) hn) hw (run_V (As := [.int (nI n), .int 4]) (rest := []) (np := 2) hf hw (k_X7_sensorOf l E _ (nI n) 4) ⟨gl_V q199 q200 q201 q2 q202, by decide +kernel⟩ ⟨rfl, rfl, Nat.le_of_ble_eq_true rfl, Nat.le_of_ble_eq_true rfl⟩ (by decide) (c_O E _) rfl rfl hl.1 rfl (Nat.le_of_ble_eq_true rfl) dL_law_358 ⟨Nat.le_of_ble_eq_true rfl, Nat.le_of_ble_eq_true rfl⟩) (fun μ1 H locs s1 hw => ?_)
  refine lv_istore (lv' := [(7, .int (μ.1 0 (sF n 4))), (6, .int (nI n)), (5, .int z), (4, .int y), (3, .int (nI k)), (2, .int 1), (1, .ref (E.1 231)), (0, .ref b)]) hx hb dL_law_361 hl (by decide) rfl (fun ls hl => ?_)
  refine lv_iload hx hb dL_law_363 (lv_at hl 2 rfl) ?_
  refine lv_ldc hx hb hf.2.2.2.1 (hf.2.2.2.2 _ q8) dL_law_365 ?_
  refine lv_irem hx hb dL_law_367 (by decide) ?_
  refine lv_ldc hx hb hf.2.2.2.1 (hf.2.2.2.2 _ q6) dL_law_368 ?_
  refine lv_isub hx hb dL_law_370 ?_
  refine lv_topi (fun tt ett => ?_)
  have htt : -200000 ≤ tt.toInt ∧ tt.toInt ≤ 850000 := by
      have q := rem_s (a := 200000) (z := z) (d := 1050001) (n := 1050001) (by decide) hz (by decide) (by decide) (by decide)
      rw [show (200000 : Int32).toInt = 200000 by decide] at q
      rw [ett]
      omega
  clear ett
  refine lv_istore (lv' := [(8, .int tt), (7, .int (μ.1 0 (sF n 4))), (6, .int (nI n)), (5, .int z), (4, .int y), (3, .int (nI k)), (2, .int 1), (1, .ref (E.1 231)), (0, .ref b)]) hx hb dL_law_371 hl (by decide) rfl (fun ls hl => ?_)
  obtain ⟨t, ht, et, hbt⟩ := a_bt (w := tt) h s1 hn htt
  refine lv_aload_n hx hb dL_law_373 rfl (lv_at hl 7 rfl) ?_
  refine lv_iload hx hb dL_law_374 (lv_at hl 2 rfl) ?_
  refine lv_iload hx hb dL_law_376 (lv_at hl 0 rfl) ?_
  refine c_iW (P := fun r u => (r = -2000000002 ∧ ¬ (dI (μ.1 0) t 0 ≤ tt.toInt ∧ tt.toInt ≤ dI (μ.1 0) t 3) ∧ Same μ u) ∨ (r = μ.1 0 (sF n 4) ∧ Cf μ u k n 4 tt)) hbt hw (run_V (As := [.int (nI n), .int tt]) (rest := []) (np := 2) hf hw (k_X7_bath l E _ (nI n) tt ((h.2.2.same s1).K)) ⟨gl_V q528 q529 q530 q2 q531, by decide +kernel⟩ ⟨rfl, rfl, Nat.le_of_ble_eq_true rfl, Nat.le_of_ble_eq_true rfl⟩ (by decide) (c_O E _) rfl rfl hl.1 rfl (Nat.le_of_ble_eq_true rfl) dL_law_378 ⟨Nat.le_of_ble_eq_true rfl, Nat.le_of_ble_eq_true rfl⟩) (fun r2 μ2 H locs s2 hw => ?_)
  rcases s2 with ⟨er, hno, sA⟩ | ⟨er, eB, lB⟩
  · refine lv_istore (lv' := [(9, .int r2), (8, .int tt), (7, .int (μ.1 0 (sF n 4))), (6, .int (nI n)), (5, .int z), (4, .int y), (3, .int (nI k)), (2, .int 1), (1, .ref (E.1 231)), (0, .ref b)]) hx hb dL_law_381 hl (by decide) rfl (fun ls hl => ?_)
    refine lv_iload hx hb dL_law_383 (lv_at hl 0 rfl) ?_
    refine lv_ldc hx hb hf.2.2.2.1 (hf.2.2.2.2 _ q9) dL_law_385 ?_
    refine lv_icmp_ne (tgt := 428) hx hb dL_law_387 (by decide) (fun c => absurd er c) (fun _ => ?_)
    refine lv_aload_n hx hb dL_law_390 rfl (lv_at hl 8 rfl) ?_
    refine lv_aload_n hx hb dL_law_391 rfl (lv_at hl 8 rfl) ?_
    refine lv_iload hx hb dL_law_392 (lv_at hl 3 rfl) ?_
    refine lv_iconst (v := 0) hx hb dL_law_394 (by decide) ?_
    refine c_iV (v := nI t) (P := fun z => Same μ z) (⟨(a_s0 sA h.1.2.1.2 (show 4 ≤ 6 by decide) hn).1.trans et, (a_s0 sA h.1.2.1.2 (show 4 ≤ 6 by decide) hn).2⟩) hw (run_V (As := [.int (nI n), .int 0]) (rest := [.ref (E.1 231)]) (np := 2) hf hw (k_X7_sensorOf l E _ (nI n) 0) ⟨gl_V q199 q200 q201 q2 q202, by decide +kernel⟩ ⟨rfl, rfl, Nat.le_of_ble_eq_true rfl, Nat.le_of_ble_eq_true rfl⟩ (by decide) (c_O E _) rfl rfl hl.1 rfl (Nat.le_of_ble_eq_true rfl) dL_law_395 ⟨Nat.le_of_ble_eq_true rfl, Nat.le_of_ble_eq_true rfl⟩) (fun μ3 H locs s3 hw => ?_)
    refine lv_iload hx hb dL_law_398 (lv_at hl 1 rfl) ?_
    refine c_iV (v := (-2000000004)) (P := fun z => Same μ z) (a_rn (w := tt) s3 h.1 ht htt hno) hw (run_V (As := [.int (nI t), .int tt]) (rest := []) (np := 2) hf hw (k_X7_ratio l E _ (nI t) tt) ⟨gl_V q168 q169 q170 q2 q171, by decide +kernel⟩ ⟨rfl, rfl, Nat.le_of_ble_eq_true rfl, Nat.le_of_ble_eq_true rfl⟩ (by decide) (c_O E _) rfl rfl hl.1 rfl (Nat.le_of_ble_eq_true rfl) dL_law_400 ⟨Nat.le_of_ble_eq_true rfl, Nat.le_of_ble_eq_true rfl⟩) (fun μ4 H locs s4 hw => ?_)
    refine lv_ldc hx hb hf.2.2.2.1 (hf.2.2.2.2 _ q10) dL_law_403 ?_
    refine lv_icmp_ne (tgt := 424) hx hb dL_law_405 (by decide) (fun c => absurd (by decide) c) (fun _ => ?_)
    refine lv_aload_n hx hb dL_law_408 rfl (lv_at hl 8 rfl) ?_
    refine lv_iload hx hb dL_law_409 (lv_at hl 3 rfl) ?_
    refine lv_iconst (v := 4) hx hb dL_law_411 (by decide) ?_
    refine c_iV (v := μ.1 0 (sF n 4)) (P := fun z => Same μ z) (a_s4 s4 h.1.2.1.2 (show 4 ≤ 6 by decide) hn) hw (run_V (As := [.int (nI n), .int 4]) (rest := []) (np := 2) hf hw (k_X7_sensorOf l E _ (nI n) 4) ⟨gl_V q199 q200 q201 q2 q202, by decide +kernel⟩ ⟨rfl, rfl, Nat.le_of_ble_eq_true rfl, Nat.le_of_ble_eq_true rfl⟩ (by decide) (c_O E _) rfl rfl hl.1 rfl (Nat.le_of_ble_eq_true rfl) dL_law_412 ⟨Nat.le_of_ble_eq_true rfl, Nat.le_of_ble_eq_true rfl⟩) (fun μ5 H locs s5 hw => ?_)
    refine lv_iload hx hb dL_law_415 (lv_at hl 2 rfl) ?_
    refine lv_icmp_ne (tgt := 424) hx hb dL_law_417 (by decide) (fun c => absurd rfl c) (fun _ => ?_)
    refine lv_iconst (v := 1) hx hb dL_law_420 (by decide) ?_
    refine lv_goto (tgt := 452) hx hb dL_law_421 (by decide) ?_
    refine lv_istore_n (lv' := [(2, .int 1), (9, .int r2), (8, .int tt), (7, .int (μ.1 0 (sF n 4))), (6, .int (nI n)), (5, .int z), (4, .int y), (3, .int (nI k)), (1, .ref (E.1 231)), (0, .ref b)]) hx hb dL_law_452 rfl hl (by decide) rfl (fun ls hl => ?_)
    refine lv_goto (tgt := 717) hx hb dL_law_453 (by decide) ?_
    exact kk _ _ _ _ (h.same s5).mono (lv_sub hl [0, 7, 5, 8, 9] rfl) hw
  · have h1b := lB.1.2.1.2
    have hwas := (h.1.2.2.2.2.1 n hn).2.2.2.2.1
    refine lv_istore (lv' := [(9, .int r2), (8, .int tt), (7, .int (μ.1 0 (sF n 4))), (6, .int (nI n)), (5, .int z), (4, .int y), (3, .int (nI k)), (2, .int 1), (1, .ref (E.1 231)), (0, .ref b)]) hx hb dL_law_381 hl (by decide) rfl (fun ls hl => ?_)
    refine lv_iload hx hb dL_law_383 (lv_at hl 0 rfl) ?_
    refine lv_ldc hx hb hf.2.2.2.1 (hf.2.2.2.2 _ q9) dL_law_385 ?_
    refine lv_icmp_ne (tgt := 428) hx hb dL_law_387 (by decide) (fun _ => ?_) (fun c => absurd c (fun q => by have q2 := congrArg Int32.toInt (er.symm.trans q); rw [show (-2000000002 : Int32).toInt = -2000000002 by decide] at q2; omega))
    refine lv_iload hx hb dL_law_428 (lv_at hl 0 rfl) ?_
    refine lv_iload hx hb dL_law_430 (lv_at hl 2 rfl) ?_
    refine lv_icmp_ne (tgt := 451) hx hb dL_law_432 (by decide) (fun c => absurd er c) (fun _ => ?_)
    refine lv_aload_n hx hb dL_law_435 rfl (lv_at hl 8 rfl) ?_
    refine lv_iload hx hb dL_law_436 (lv_at hl 3 rfl) ?_
    refine lv_iconst (v := 4) hx hb dL_law_438 (by decide) ?_
    refine c_iV (v := tt) (P := fun z => Same μ2 z) (⟨(a_s4 Same.rf h1b (show 4 ≤ 6 by decide) hn).1.trans (by rw [eB]; exact ur_s), (a_s4 Same.rf h1b (show 4 ≤ 6 by decide) hn).2⟩) hw (run_V (As := [.int (nI n), .int 4]) (rest := []) (np := 2) hf hw (k_X7_sensorOf l E _ (nI n) 4) ⟨gl_V q199 q200 q201 q2 q202, by decide +kernel⟩ ⟨rfl, rfl, Nat.le_of_ble_eq_true rfl, Nat.le_of_ble_eq_true rfl⟩ (by decide) (c_O E _) rfl rfl hl.1 rfl (Nat.le_of_ble_eq_true rfl) dL_law_439 ⟨Nat.le_of_ble_eq_true rfl, Nat.le_of_ble_eq_true rfl⟩) (fun μ6 H locs s6 hw => ?_)
    refine lv_iload hx hb dL_law_442 (lv_at hl 1 rfl) ?_
    refine lv_icmp_ne (tgt := 451) hx hb dL_law_444 (by decide) (fun c => absurd rfl c) (fun _ => ?_)
    refine lv_iconst (v := 1) hx hb dL_law_447 (by decide) ?_
    refine lv_goto (tgt := 452) hx hb dL_law_448 (by decide) ?_
    refine lv_istore_n (lv' := [(2, .int 1), (9, .int r2), (8, .int tt), (7, .int (μ.1 0 (sF n 4))), (6, .int (nI n)), (5, .int z), (4, .int y), (3, .int (nI k)), (1, .ref (E.1 231)), (0, .ref b)]) hx hb dL_law_452 rfl hl (by decide) rfl (fun ls hl => ?_)
    refine lv_goto (tgt := 717) hx hb dL_law_453 (by decide) ?_
    exact kk _ _ _ _ (lB.same s6).mono (lv_sub hl [0, 7, 5, 8, 9] rfl) hw

set_option maxHeartbeats 8000000 in
set_option maxRecDepth 100000 in
theorem law_4 (hf : CallFix p m c code 14 s #[Value.ref b] wsL_law RL) (hX : va_X b L xs s s.heap) (hbl : b < s.heap.size) (hbA : ¬ inE E b) (hL : L < 2 ^ 31) {n k : Nat} {y z : Int32} (hz : 0 ≤ z.toInt) (hn : n < 4) (hk : k < 26) (h : Lk μ k) (hl : lv_has ls 14 [(6, .int (nI n)), (5, .int z), (4, .int y), (3, .int (nI k)), (2, .int 1), (1, .ref (E.1 231)), (0, .ref b)]) (hw : Wk E μ s H locs)
    (kk : ∀ (μ : Mu) (H : Heap) (locs : List Loc) (ls : Array Slot), Lk μ (k + 1) → lv_has ls 14 [(2, .int 1), (3, .int (nI k)), (5, .int z), (1, .ref (E.1 231)), (0, .ref b)] → Wk E μ s H locs → W p l e room_1 s m #[Value.ref b] below meth c H locs 232 1863 Q (F0 m 717 ls [])) : W p l e room_1 s m #[Value.ref b] below meth c H locs 232 1863 Q (F0 m 456 ls []) := by
  have hx := hf.1
  have hb := hf.2.1
  refine lv_iload hx hb dL_law_456 (lv_at hl 1 rfl) ?_
  refine lv_iconst (v := 4) hx hb dL_law_458 (by decide) ?_
  refine lv_irem hx hb dL_law_459 (by decide) ?_
  refine lv_topi (fun wi ewi => ?_)
  obtain ⟨i, hi, rfl⟩ : ∃ i : Nat, i < 4 ∧ wi = nI i := by rw [ewi]; exact rem_n2 (w := 4) rfl hz (by decide) (by decide)
  clear ewi
  refine lv_istore (lv' := [(10, .int (nI i)), (6, .int (nI n)), (5, .int z), (4, .int y), (3, .int (nI k)), (2, .int 1), (1, .ref (E.1 231)), (0, .ref b)]) hx hb dL_law_460 hl (by decide) rfl (fun ls hl => ?_)
  refine lv_aload_n hx hb dL_law_462 rfl (lv_at hl 6 rfl) ?_
  refine lv_iload hx hb dL_law_463 (lv_at hl 0 rfl) ?_
  refine lv_iload hx hb dL_law_465 (lv_at hl 0 rfl) ?_
  refine lv_if_ne (tgt := 484) hx hb dL_law_467 (by decide) (fun z1 => ?_) (fun z1 => ?_)
  · refine lv_iload hx hb dL_law_484 (lv_at hl 0 rfl) ?_
    refine lv_iconst (v := 3) hx hb dL_law_486 (by decide) ?_
    refine lv_icmp_ne (tgt := 503) hx hb dL_law_487 (by decide) (fun z2 => ?_) (fun z2 => ?_)
    · refine lv_bipush (v := 100) hx hb dL_law_503 (by decide) ?_
      refine lv_iload hx hb dL_law_505 (lv_at hl 2 rfl) ?_
      refine lv_iconst (v := 4) hx hb dL_law_507 (by decide) ?_
      refine lv_idiv hx hb dL_law_508 (by decide) ?_
      refine lv_sipush (v := 4901) hx hb dL_law_509 (by decide) ?_
      refine lv_irem hx hb dL_law_512 (by decide) ?_
      refine lv_iadd hx hb dL_law_513 ?_
      refine lv_topi (fun v ev => ?_)
      have hv : 100 ≤ v.toInt ∧ v.toInt ≤ 5000 := by
          have q := rem_a (a := 100) (z := z / 4) (d := 4901) (n := 4901) (by decide) (div_b hz (by decide)).1 (by decide) (by decide) (by decide)
          rw [show (100 : Int32).toInt = 100 by decide] at q
          rw [ev]
          omega
      clear ev
      have i0 : i ≠ 0 := fun q => z1 (by rw [q]; rfl)
      have i3 : i ≠ 3 := fun q => z2 (by rw [q]; rfl)
      have v0 : i = 0 → 10000 ≤ v.toInt ∧ v.toInt ≤ 1000000 := fun q => by omega
      have v1 : i = 1 ∨ i = 2 → 100 ≤ v.toInt ∧ v.toInt ≤ 5000 := fun _ => hv
      have v3 : i = 3 → 8 ≤ v.toInt ∧ v.toInt ≤ 24 := fun q => by omega
      refine c_iW (P := fun r u => ¬ r ≤ 0 ∧ Lk u k) (a_st (v := v) h Same.rf hi v0 v1 v3) hw (run_V (As := [.int (nI i), .int v]) (rest := []) (np := 2) hf hw (k_X7_set l E _ (nI i) v h.2.2.K) ⟨gl_V q538 q539 q540 q2 q541, by decide +kernel⟩ ⟨rfl, rfl, Nat.le_of_ble_eq_true rfl, Nat.le_of_ble_eq_true rfl⟩ (by decide) (c_O E _) rfl rfl hl.1 rfl (Nat.le_of_ble_eq_true rfl) dL_law_514 ⟨Nat.le_of_ble_eq_true rfl, Nat.le_of_ble_eq_true rfl⟩) (fun r1 μ1 H locs s1 hw => ?_)
      refine lv_if_le (tgt := 524) hx hb dL_law_517 (by decide) (fun c => absurd c s1.1) (fun _ => ?_)
      refine lv_iconst (v := 1) hx hb dL_law_520 (by decide) ?_
      refine lv_goto (tgt := 525) hx hb dL_law_521 (by decide) ?_
      refine lv_istore_n (lv' := [(2, .int 1), (10, .int (nI i)), (6, .int (nI n)), (5, .int z), (4, .int y), (3, .int (nI k)), (1, .ref (E.1 231)), (0, .ref b)]) hx hb dL_law_525 rfl hl (by decide) rfl (fun ls hl => ?_)
      refine lv_goto (tgt := 717) hx hb dL_law_526 (by decide) ?_
      exact kk _ _ _ _ s1.2.mono (lv_sub hl [0, 5, 3, 6, 7] rfl) hw
    · refine lv_bipush (v := 8) hx hb dL_law_490 (by decide) ?_
      refine lv_iload hx hb dL_law_492 (lv_at hl 2 rfl) ?_
      refine lv_iconst (v := 4) hx hb dL_law_494 (by decide) ?_
      refine lv_idiv hx hb dL_law_495 (by decide) ?_
      refine lv_bipush (v := 17) hx hb dL_law_496 (by decide) ?_
      refine lv_irem hx hb dL_law_498 (by decide) ?_
      refine lv_iadd hx hb dL_law_499 ?_
      refine lv_topi (fun v ev => ?_)
      have hv : 8 ≤ v.toInt ∧ v.toInt ≤ 24 := by
          have q := rem_a (a := 8) (z := z / 4) (d := 17) (n := 17) (by decide) (div_b hz (by decide)).1 (by decide) (by decide) (by decide)
          rw [show (8 : Int32).toInt = 8 by decide] at q
          rw [ev]
          omega
      clear ev
      have i0 : i = 3 := nI_ij (b := 3) (by omega) (by decide) z2
      have v0 : i = 0 → 10000 ≤ v.toInt ∧ v.toInt ≤ 1000000 := fun q => by omega
      have v1 : i = 1 ∨ i = 2 → 100 ≤ v.toInt ∧ v.toInt ≤ 5000 := fun q => by omega
      have v3 : i = 3 → 8 ≤ v.toInt ∧ v.toInt ≤ 24 := fun _ => hv
      refine lv_goto (tgt := 514) hx hb dL_law_500 (by decide) ?_
      refine c_iW (P := fun r u => ¬ r ≤ 0 ∧ Lk u k) (a_st (v := v) h Same.rf hi v0 v1 v3) hw (run_V (As := [.int (nI i), .int v]) (rest := []) (np := 2) hf hw (k_X7_set l E _ (nI i) v h.2.2.K) ⟨gl_V q538 q539 q540 q2 q541, by decide +kernel⟩ ⟨rfl, rfl, Nat.le_of_ble_eq_true rfl, Nat.le_of_ble_eq_true rfl⟩ (by decide) (c_O E _) rfl rfl hl.1 rfl (Nat.le_of_ble_eq_true rfl) dL_law_514 ⟨Nat.le_of_ble_eq_true rfl, Nat.le_of_ble_eq_true rfl⟩) (fun r2 μ2 H locs s2 hw => ?_)
      refine lv_if_le (tgt := 524) hx hb dL_law_517 (by decide) (fun c => absurd c s2.1) (fun _ => ?_)
      refine lv_iconst (v := 1) hx hb dL_law_520 (by decide) ?_
      refine lv_goto (tgt := 525) hx hb dL_law_521 (by decide) ?_
      refine lv_istore_n (lv' := [(2, .int 1), (10, .int (nI i)), (6, .int (nI n)), (5, .int z), (4, .int y), (3, .int (nI k)), (1, .ref (E.1 231)), (0, .ref b)]) hx hb dL_law_525 rfl hl (by decide) rfl (fun ls hl => ?_)
      refine lv_goto (tgt := 717) hx hb dL_law_526 (by decide) ?_
      exact kk _ _ _ _ s2.2.mono (lv_sub hl [0, 5, 3, 6, 7] rfl) hw
  · refine lv_sipush (v := 10000) hx hb dL_law_470 (by decide) ?_
    refine lv_iload hx hb dL_law_473 (lv_at hl 2 rfl) ?_
    refine lv_iconst (v := 4) hx hb dL_law_475 (by decide) ?_
    refine lv_idiv hx hb dL_law_476 (by decide) ?_
    refine lv_ldc hx hb hf.2.2.2.1 (hf.2.2.2.2 _ q11) dL_law_477 ?_
    refine lv_irem hx hb dL_law_479 (by decide) ?_
    refine lv_iadd hx hb dL_law_480 ?_
    refine lv_topi (fun v ev => ?_)
    have hv : 10000 ≤ v.toInt ∧ v.toInt ≤ 1000000 := by
        have q := rem_a (a := 10000) (z := z / 4) (d := 990001) (n := 990001) (by decide) (div_b hz (by decide)).1 (by decide) (by decide) (by decide)
        rw [show (10000 : Int32).toInt = 10000 by decide] at q
        rw [ev]
        omega
    clear ev
    have i0 : i = 0 := nI_ij (b := 0) (by omega) (by decide) z1
    have v0 : i = 0 → 10000 ≤ v.toInt ∧ v.toInt ≤ 1000000 := fun _ => hv
    have v1 : i = 1 ∨ i = 2 → 100 ≤ v.toInt ∧ v.toInt ≤ 5000 := fun q => by omega
    have v3 : i = 3 → 8 ≤ v.toInt ∧ v.toInt ≤ 24 := fun q => by omega
    refine lv_goto (tgt := 514) hx hb dL_law_481 (by decide) ?_
    refine c_iW (P := fun r u => ¬ r ≤ 0 ∧ Lk u k) (a_st (v := v) h Same.rf hi v0 v1 v3) hw (run_V (As := [.int (nI i), .int v]) (rest := []) (np := 2) hf hw (k_X7_set l E _ (nI i) v h.2.2.K) ⟨gl_V q538 q539 q540 q2 q541, by decide +kernel⟩ ⟨rfl, rfl, Nat.le_of_ble_eq_true rfl, Nat.le_of_ble_eq_true rfl⟩ (by decide) (c_O E _) rfl rfl hl.1 rfl (Nat.le_of_ble_eq_true rfl) dL_law_514 ⟨Nat.le_of_ble_eq_true rfl, Nat.le_of_ble_eq_true rfl⟩) (fun r3 μ3 H locs s3 hw => ?_)
    refine lv_if_le (tgt := 524) hx hb dL_law_517 (by decide) (fun c => absurd c s3.1) (fun _ => ?_)
    refine lv_iconst (v := 1) hx hb dL_law_520 (by decide) ?_
    refine lv_goto (tgt := 525) hx hb dL_law_521 (by decide) ?_
    refine lv_istore_n (lv' := [(2, .int 1), (10, .int (nI i)), (6, .int (nI n)), (5, .int z), (4, .int y), (3, .int (nI k)), (1, .ref (E.1 231)), (0, .ref b)]) hx hb dL_law_525 rfl hl (by decide) rfl (fun ls hl => ?_)
    refine lv_goto (tgt := 717) hx hb dL_law_526 (by decide) ?_
    exact kk _ _ _ _ s3.2.mono (lv_sub hl [0, 5, 3, 6, 7] rfl) hw

set_option maxHeartbeats 8000000 in
set_option maxRecDepth 100000 in
theorem law_5 (hf : CallFix p m c code 14 s #[Value.ref b] wsL_law RL) (hX : va_X b L xs s s.heap) (hbl : b < s.heap.size) (hbA : ¬ inE E b) (hL : L < 2 ^ 31) {n k : Nat} {y z : Int32} (hz : 0 ≤ z.toInt) (hn : n < 4) (hk : k < 26) (h : Lk μ k) (hl : lv_has ls 14 [(6, .int (nI n)), (5, .int z), (4, .int y), (3, .int (nI k)), (2, .int 1), (1, .ref (E.1 231)), (0, .ref b)]) (hw : Wk E μ s H locs)
    (kk : ∀ (μ : Mu) (H : Heap) (locs : List Loc) (ls : Array Slot), Lk μ (k + 1) → lv_has ls 14 [(2, .int 1), (3, .int (nI k)), (5, .int z), (1, .ref (E.1 231)), (0, .ref b)] → Wk E μ s H locs → W p l e room_1 s m #[Value.ref b] below meth c H locs 232 1863 Q (F0 m 717 ls [])) : W p l e room_1 s m #[Value.ref b] below meth c H locs 232 1863 Q (F0 m 529 ls []) := by
  have hx := hf.1
  have hb := hf.2.1
  refine lv_aload_n hx hb dL_law_529 rfl (lv_at hl 5 rfl) ?_
  refine lv_iload hx hb dL_law_530 (lv_at hl 0 rfl) ?_
  refine lv_iconst (v := 2) hx hb dL_law_532 (by decide) ?_
  refine c_iV (v := μ.1 0 (sF n 2)) (P := fun z => Same μ z) (a_s2 Same.rf h.1.2.1.2 (show 4 ≤ 6 by decide) hn) hw (run_V (As := [.int (nI n), .int 2]) (rest := []) (np := 2) hf hw (k_X7_sensorOf l E _ (nI n) 2) ⟨gl_V q199 q200 q201 q2 q202, by decide +kernel⟩ ⟨rfl, rfl, Nat.le_of_ble_eq_true rfl, Nat.le_of_ble_eq_true rfl⟩ (by decide) (c_O E _) rfl rfl hl.1 rfl (Nat.le_of_ble_eq_true rfl) dL_law_533 ⟨Nat.le_of_ble_eq_true rfl, Nat.le_of_ble_eq_true rfl⟩) (fun μ1 H locs s1 hw => ?_)
  refine lv_istore (lv' := [(11, .int (μ.1 0 (sF n 2))), (6, .int (nI n)), (5, .int z), (4, .int y), (3, .int (nI k)), (2, .int 1), (1, .ref (E.1 231)), (0, .ref b)]) hx hb dL_law_536 hl (by decide) rfl (fun ls hl => ?_)
  refine lv_aload_n hx hb dL_law_538 rfl (lv_at hl 6 rfl) ?_
  refine lv_iload hx hb dL_law_539 (lv_at hl 1 rfl) ?_
  refine lv_iload hx hb dL_law_541 (lv_at hl 2 rfl) ?_
  refine lv_ldc hx hb hf.2.2.2.1 (hf.2.2.2.2 _ q12) dL_law_543 ?_
  refine lv_irem hx hb dL_law_545 (by decide) ?_
  refine lv_ldc hx hb hf.2.2.2.1 (hf.2.2.2.2 _ q13) dL_law_546 ?_
  refine lv_isub hx hb dL_law_548 ?_
  refine lv_topi (fun dd edd => ?_)
  have hdd : -100000 ≤ dd.toInt ∧ dd.toInt ≤ 100000 := by
      have q := rem_s (a := 100000) (z := z) (d := 200001) (n := 200001) (by decide) hz (by decide) (by decide) (by decide)
      rw [show (100000 : Int32).toInt = 100000 by decide] at q
      rw [edd]
      omega
  clear edd
  refine c_iW (P := fun r u => (r = -2000000002 ∧ Same μ u) ∨ ((1000 ≤ r.toInt ∧ r.toInt ≤ 2000000) ∧ Cf μ u k n 2 r)) (a_dr (v := dd) h s1 hn hdd) hw (run_V (As := [.int (nI n), .int dd]) (rest := []) (np := 2) hf hw (k_X7_drift l E _ (nI n) dd ((h.2.2.same s1).K)) ⟨gl_V q551 q552 q553 q2 q554, by decide +kernel⟩ ⟨rfl, rfl, Nat.le_of_ble_eq_true rfl, Nat.le_of_ble_eq_true rfl⟩ (by decide) (c_O E _) rfl rfl hl.1 rfl (Nat.le_of_ble_eq_true rfl) dL_law_549 ⟨Nat.le_of_ble_eq_true rfl, Nat.le_of_ble_eq_true rfl⟩) (fun r2 μ2 H locs s2 hw => ?_)
  rcases s2 with ⟨er, sA⟩ | ⟨hrr, eB, lB⟩
  · refine lv_istore (lv' := [(12, .int r2), (11, .int (μ.1 0 (sF n 2))), (6, .int (nI n)), (5, .int z), (4, .int y), (3, .int (nI k)), (2, .int 1), (1, .ref (E.1 231)), (0, .ref b)]) hx hb dL_law_552 hl (by decide) rfl (fun ls hl => ?_)
    refine lv_iload hx hb dL_law_554 (lv_at hl 0 rfl) ?_
    refine lv_ldc hx hb hf.2.2.2.1 (hf.2.2.2.2 _ q9) dL_law_556 ?_
    refine lv_icmp_ne (tgt := 581) hx hb dL_law_558 (by decide) (fun c => absurd er c) (fun _ => ?_)
    refine lv_aload_n hx hb dL_law_561 rfl (lv_at hl 7 rfl) ?_
    refine lv_iload hx hb dL_law_562 (lv_at hl 2 rfl) ?_
    refine lv_iconst (v := 2) hx hb dL_law_564 (by decide) ?_
    refine c_iV (v := μ.1 0 (sF n 2)) (P := fun z => Same μ z) (a_s2 sA h.1.2.1.2 (show 4 ≤ 6 by decide) hn) hw (run_V (As := [.int (nI n), .int 2]) (rest := []) (np := 2) hf hw (k_X7_sensorOf l E _ (nI n) 2) ⟨gl_V q199 q200 q201 q2 q202, by decide +kernel⟩ ⟨rfl, rfl, Nat.le_of_ble_eq_true rfl, Nat.le_of_ble_eq_true rfl⟩ (by decide) (c_O E _) rfl rfl hl.1 rfl (Nat.le_of_ble_eq_true rfl) dL_law_565 ⟨Nat.le_of_ble_eq_true rfl, Nat.le_of_ble_eq_true rfl⟩) (fun μ3 H locs s3 hw => ?_)
    refine lv_iload hx hb dL_law_568 (lv_at hl 1 rfl) ?_
    refine lv_icmp_ne (tgt := 577) hx hb dL_law_570 (by decide) (fun c => absurd rfl c) (fun _ => ?_)
    refine lv_iconst (v := 1) hx hb dL_law_573 (by decide) ?_
    refine lv_goto (tgt := 598) hx hb dL_law_574 (by decide) ?_
    refine lv_istore_n (lv' := [(2, .int 1), (12, .int r2), (11, .int (μ.1 0 (sF n 2))), (6, .int (nI n)), (5, .int z), (4, .int y), (3, .int (nI k)), (1, .ref (E.1 231)), (0, .ref b)]) hx hb dL_law_598 rfl hl (by decide) rfl (fun ls hl => ?_)
    refine lv_goto (tgt := 717) hx hb dL_law_599 (by decide) ?_
    exact kk _ _ _ _ (h.same s3).mono (lv_sub hl [0, 6, 4, 7, 8] rfl) hw
  · have h1b := lB.1.2.1.2
    refine lv_istore (lv' := [(12, .int r2), (11, .int (μ.1 0 (sF n 2))), (6, .int (nI n)), (5, .int z), (4, .int y), (3, .int (nI k)), (2, .int 1), (1, .ref (E.1 231)), (0, .ref b)]) hx hb dL_law_552 hl (by decide) rfl (fun ls hl => ?_)
    refine lv_iload hx hb dL_law_554 (lv_at hl 0 rfl) ?_
    refine lv_ldc hx hb hf.2.2.2.1 (hf.2.2.2.2 _ q9) dL_law_556 ?_
    refine lv_icmp_ne (tgt := 581) hx hb dL_law_558 (by decide) (fun _ => ?_) (fun c => absurd c (fun q => by have q2 := congrArg Int32.toInt q; rw [show (-2000000002 : Int32).toInt = -2000000002 by decide] at q2; omega))
    refine lv_aload_n hx hb dL_law_581 rfl (lv_at hl 7 rfl) ?_
    refine lv_iload hx hb dL_law_582 (lv_at hl 2 rfl) ?_
    refine lv_iconst (v := 2) hx hb dL_law_584 (by decide) ?_
    refine c_iV (v := r2) (P := fun z => Same μ2 z) (⟨(a_s2 Same.rf h1b (show 4 ≤ 6 by decide) hn).1.trans (by rw [eB]; exact ur_s), (a_s2 Same.rf h1b (show 4 ≤ 6 by decide) hn).2⟩) hw (run_V (As := [.int (nI n), .int 2]) (rest := []) (np := 2) hf hw (k_X7_sensorOf l E _ (nI n) 2) ⟨gl_V q199 q200 q201 q2 q202, by decide +kernel⟩ ⟨rfl, rfl, Nat.le_of_ble_eq_true rfl, Nat.le_of_ble_eq_true rfl⟩ (by decide) (c_O E _) rfl rfl hl.1 rfl (Nat.le_of_ble_eq_true rfl) dL_law_585 ⟨Nat.le_of_ble_eq_true rfl, Nat.le_of_ble_eq_true rfl⟩) (fun μ4 H locs s4 hw => ?_)
    refine lv_iload hx hb dL_law_588 (lv_at hl 0 rfl) ?_
    refine lv_icmp_ne (tgt := 597) hx hb dL_law_590 (by decide) (fun c => absurd rfl c) (fun _ => ?_)
    refine lv_iconst (v := 1) hx hb dL_law_593 (by decide) ?_
    refine lv_goto (tgt := 598) hx hb dL_law_594 (by decide) ?_
    refine lv_istore_n (lv' := [(2, .int 1), (12, .int r2), (11, .int (μ.1 0 (sF n 2))), (6, .int (nI n)), (5, .int z), (4, .int y), (3, .int (nI k)), (1, .ref (E.1 231)), (0, .ref b)]) hx hb dL_law_598 rfl hl (by decide) rfl (fun ls hl => ?_)
    refine lv_goto (tgt := 717) hx hb dL_law_599 (by decide) ?_
    exact kk _ _ _ _ (lB.same s4).mono (lv_sub hl [0, 6, 4, 7, 8] rfl) hw

set_option maxHeartbeats 8000000 in
set_option maxRecDepth 100000 in
theorem law_6 (hf : CallFix p m c code 14 s #[Value.ref b] wsL_law RL) (hX : va_X b L xs s s.heap) (hbl : b < s.heap.size) (hbA : ¬ inE E b) (hL : L < 2 ^ 31) {n k : Nat} {y z : Int32} (hz : 0 ≤ z.toInt) (hn : n < 4) (hk : k < 26) (h : Lk μ k) (hl : lv_has ls 14 [(6, .int (nI n)), (5, .int z), (4, .int y), (3, .int (nI k)), (2, .int 1), (1, .ref (E.1 231)), (0, .ref b)]) (hw : Wk E μ s H locs)
    (kk : ∀ (μ : Mu) (H : Heap) (locs : List Loc) (ls : Array Slot), Lk μ (k + 1) → lv_has ls 14 [(2, .int 1), (3, .int (nI k)), (5, .int z), (1, .ref (E.1 231)), (0, .ref b)] → Wk E μ s H locs → W p l e room_1 s m #[Value.ref b] below meth c H locs 232 1863 Q (F0 m 717 ls [])) : W p l e room_1 s m #[Value.ref b] below meth c H locs 232 1863 Q (F0 m 602 ls []) := by
  have hx := hf.1
  have hb := hf.2.1
  refine lv_iload hx hb dL_law_602 (lv_at hl 1 rfl) ?_
  refine lv_iconst (v := 2) hx hb dL_law_604 (by decide) ?_
  refine lv_irem hx hb dL_law_605 (by decide) ?_
  refine lv_topi (fun wi ewi => ?_)
  obtain ⟨j, hj, rfl⟩ : ∃ j : Nat, j < 2 ∧ wi = nI j := by rw [ewi]; exact rem_n2 (w := 2) rfl hz (by decide) (by decide)
  clear ewi
  refine lv_istore (lv' := [(13, .int (nI j)), (6, .int (nI n)), (5, .int z), (4, .int y), (3, .int (nI k)), (2, .int 1), (1, .ref (E.1 231)), (0, .ref b)]) hx hb dL_law_606 hl (by decide) rfl (fun ls hl => ?_)
  refine lv_aload_n hx hb dL_law_608 rfl (lv_at hl 6 rfl) ?_
  refine lv_iload hx hb dL_law_609 (lv_at hl 1 rfl) ?_
  refine lv_iload hx hb dL_law_611 (lv_at hl 0 rfl) ?_
  refine lv_iconst (v := 1) hx hb dL_law_613 (by decide) ?_
  refine lv_aload_n hx hb dL_law_614 rfl (lv_at hl 6 rfl) ?_
  refine lv_iload hx hb dL_law_615 (lv_at hl 1 rfl) ?_
  refine lv_bipush (v := 12) hx hb dL_law_617 (by decide) ?_
  refine c_iV (v := μ.1 0 (sF n 5)) (P := fun z => Same μ z) (a_s12 Same.rf h.1.2.1.2 (show 4 ≤ 6 by decide) hn) hw (run_V (As := [.int (nI n), .int 12]) (rest := [.int 1, .int (nI j), .int (nI n), .ref (E.1 231)]) (np := 2) hf hw (k_X7_sensorOf l E _ (nI n) 12) ⟨gl_V q199 q200 q201 q2 q202, by decide +kernel⟩ ⟨rfl, rfl, Nat.le_of_ble_eq_true rfl, Nat.le_of_ble_eq_true rfl⟩ (by decide) (c_O E _) rfl rfl hl.1 rfl (Nat.le_of_ble_eq_true rfl) dL_law_619 ⟨Nat.le_of_ble_eq_true rfl, Nat.le_of_ble_eq_true rfl⟩) (fun μ1 H locs s1 hw => ?_)
  refine lv_iload hx hb dL_law_622 (lv_at hl 0 rfl) ?_
  refine lv_ishr hx hb dL_law_624 ?_
  refine lv_iconst (v := 1) hx hb dL_law_625 (by decide) ?_
  refine lv_iand hx hb dL_law_626 ?_
  refine lv_isub hx hb dL_law_627 ?_
  refine c_iW (P := fun r u => 0 ≤ r.toInt ∧ ∃ b : Int32, Cf μ u k n 5 b) (a_cu h s1 hn hj) hw (run_V (As := [.int (nI n), .int (nI j), .int (1 - (((μ.1 0 (sF n 5)) >>> ((nI j) &&& 31)) &&& 1))]) (rest := []) (np := 3) hf hw (k_X7_cut l E _ (nI n) (nI j) (1 - (((μ.1 0 (sF n 5)) >>> ((nI j) &&& 31)) &&& 1)) ((h.2.2.same s1).K)) ⟨gl_V q558 q559 q560 q2 q561, by decide +kernel⟩ ⟨rfl, rfl, Nat.le_of_ble_eq_true rfl, Nat.le_of_ble_eq_true rfl⟩ (by decide) (c_O E _) rfl rfl hl.1 rfl (Nat.le_of_ble_eq_true rfl) dL_law_628 ⟨Nat.le_of_ble_eq_true rfl, Nat.le_of_ble_eq_true rfl⟩) (fun r2 μ2 H locs s2 hw => ?_)
  obtain ⟨hr0, bb, eB, lB⟩ := s2
  have h1b := lB.1.2.1.2
  refine lv_if_lt (tgt := 659) hx hb dL_law_631 (by decide) (fun c => absurd c (by rw [Int32.lt_iff_toInt_lt, Int32.toInt_zero]; omega)) (fun _ => ?_)
  refine lv_aload_n hx hb dL_law_634 rfl (lv_at hl 6 rfl) ?_
  refine lv_iload hx hb dL_law_635 (lv_at hl 1 rfl) ?_
  refine lv_bipush (v := 12) hx hb dL_law_637 (by decide) ?_
  refine c_iV (v := μ2.1 0 (sF n 5)) (P := fun z => Same μ2 z) (a_s12 Same.rf h1b (show 4 ≤ 6 by decide) hn) hw (run_V (As := [.int (nI n), .int 12]) (rest := []) (np := 2) hf hw (k_X7_sensorOf l E _ (nI n) 12) ⟨gl_V q199 q200 q201 q2 q202, by decide +kernel⟩ ⟨rfl, rfl, Nat.le_of_ble_eq_true rfl, Nat.le_of_ble_eq_true rfl⟩ (by decide) (c_O E _) rfl rfl hl.1 rfl (Nat.le_of_ble_eq_true rfl) dL_law_639 ⟨Nat.le_of_ble_eq_true rfl, Nat.le_of_ble_eq_true rfl⟩) (fun μ3 H locs s3 hw => ?_)
  refine lv_if_eq (tgt := 655) hx hb dL_law_642 (by decide) (fun z1 => ?_) (fun z1 => ?_)
  · refine lv_iconst (v := 1) hx hb dL_law_655 (by decide) ?_
    refine lv_goto (tgt := 660) hx hb dL_law_656 (by decide) ?_
    refine lv_istore_n (lv' := [(2, .int 1), (13, .int (nI j)), (6, .int (nI n)), (5, .int z), (4, .int y), (3, .int (nI k)), (1, .ref (E.1 231)), (0, .ref b)]) hx hb dL_law_660 rfl hl (by decide) rfl (fun ls hl => ?_)
    refine lv_goto (tgt := 717) hx hb dL_law_661 (by decide) ?_
    exact kk _ _ _ _ (lB.same s3).mono (lv_sub hl [0, 5, 3, 6, 7] rfl) hw
  · refine lv_aload_n hx hb dL_law_645 rfl (lv_at hl 6 rfl) ?_
    refine lv_iload hx hb dL_law_646 (lv_at hl 1 rfl) ?_
    refine c_iV (v := dgn (μ2.1 0) n) (P := fun z => Same μ2 z) (a_dg s3 h1b (show 4 ≤ 6 by decide) hn) hw (run_V (As := [.int (nI n)]) (rest := []) (np := 1) hf hw (k_X7_diagnosis l E _ (nI n)) ⟨gl_V q245 q246 q247 q2 q248, by decide +kernel⟩ ⟨rfl, rfl, Nat.le_of_ble_eq_true rfl, Nat.le_of_ble_eq_true rfl⟩ (by decide) (c_O E _) rfl rfl hl.1 rfl (Nat.le_of_ble_eq_true rfl) dL_law_648 ⟨Nat.le_of_ble_eq_true rfl, Nat.le_of_ble_eq_true rfl⟩) (fun μ4 H locs s4 hw => ?_)
    have dg2 : ¬ (2 : Int32) < dgn (μ2.1 0) n := by
        rcases dg_c (g := μ2.1 0) (k := n) (by rw [(lB.1.2.2.2.2.1 n hn).2.2.2.2.2.1]; exact pl_ne (by unfold plc; omega)) with q | q | q
        · exact absurd q.2.2 z1
        · rw [q]; decide
        · exact absurd q.2 z1
    refine lv_iconst (v := 2) hx hb dL_law_651 (by decide) ?_
    refine lv_icmp_gt (tgt := 659) hx hb dL_law_652 (by decide) (fun c => absurd c dg2) (fun _ => ?_)
    refine lv_iconst (v := 1) hx hb dL_law_655 (by decide) ?_
    refine lv_goto (tgt := 660) hx hb dL_law_656 (by decide) ?_
    refine lv_istore_n (lv' := [(2, .int 1), (13, .int (nI j)), (6, .int (nI n)), (5, .int z), (4, .int y), (3, .int (nI k)), (1, .ref (E.1 231)), (0, .ref b)]) hx hb dL_law_660 rfl hl (by decide) rfl (fun ls hl => ?_)
    refine lv_goto (tgt := 717) hx hb dL_law_661 (by decide) ?_
    exact kk _ _ _ _ (lB.same s4).mono (lv_sub hl [0, 5, 3, 6, 7] rfl) hw

set_option maxHeartbeats 8000000 in
set_option maxRecDepth 100000 in
theorem law_7 (hf : CallFix p m c code 14 s #[Value.ref b] wsL_law RL) (hX : va_X b L xs s s.heap) (hbl : b < s.heap.size) (hbA : ¬ inE E b) (hL : L < 2 ^ 31) {n k : Nat} {y z : Int32} (hz : 0 ≤ z.toInt) (hn : n < 4) (hk : k < 26) (h : Lk μ k) (hl : lv_has ls 14 [(6, .int (nI n)), (5, .int z), (4, .int y), (3, .int (nI k)), (2, .int 1), (1, .ref (E.1 231)), (0, .ref b)]) (hw : Wk E μ s H locs)
    (kk : ∀ (μ : Mu) (H : Heap) (locs : List Loc) (ls : Array Slot), Lk μ (k + 1) → lv_has ls 14 [(2, .int 1), (3, .int (nI k)), (5, .int z), (1, .ref (E.1 231)), (0, .ref b)] → Wk E μ s H locs → W p l e room_1 s m #[Value.ref b] below meth c H locs 232 1863 Q (F0 m 717 ls [])) : W p l e room_1 s m #[Value.ref b] below meth c H locs 232 1863 Q (F0 m 664 ls []) := by
  have hx := hf.1
  have hb := hf.2.1
  refine lv_aload_n hx hb dL_law_664 rfl (lv_at hl 5 rfl) ?_
  refine lv_iload hx hb dL_law_665 (lv_at hl 0 rfl) ?_
  refine lv_iconst (v := 2) hx hb dL_law_667 (by decide) ?_
  refine lv_iload hx hb dL_law_668 (lv_at hl 1 rfl) ?_
  refine lv_iconst (v := 2) hx hb dL_law_670 (by decide) ?_
  refine lv_irem hx hb dL_law_671 (by decide) ?_
  refine lv_topi (fun v1 ev1 => ?_)
  have hv1 : v1 = 0 ∨ v1 = 1 := by
      obtain ⟨j, hj, ej⟩ := rem_n2 (w := 2) (d := 2) rfl hz (by decide) (by decide)
      rw [ev1, ej]
      rcases (show j = 0 ∨ j = 1 by omega) with rfl | rfl
      · exact Or.inl rfl
      · exact Or.inr rfl
  refine c_iW (P := fun r u => 0 ≤ r.toInt ∧ Cf μ u k n 18 v1) (a_sr (v := v1) h Same.rf hn hv1) hw (run_V (As := [.int (nI n), .int 2, .int v1]) (rest := []) (np := 3) hf hw (k_X7_strain l E _ (nI n) 2 v1 h.2.2.K) ⟨gl_V q577 q578 q579 q2 q580, by decide +kernel⟩ ⟨rfl, rfl, Nat.le_of_ble_eq_true rfl, Nat.le_of_ble_eq_true rfl⟩ (by decide) (c_O E _) rfl rfl hl.1 rfl (Nat.le_of_ble_eq_true rfl) dL_law_672 ⟨Nat.le_of_ble_eq_true rfl, Nat.le_of_ble_eq_true rfl⟩) (fun r1 μ1 H locs s1 hw => ?_)
  obtain ⟨hr0, eB, lB⟩ := s1
  refine lv_if_lt (tgt := 715) hx hb dL_law_675 (by decide) (fun c => absurd c (by rw [Int32.lt_iff_toInt_lt, Int32.toInt_zero]; omega)) (fun _ => ?_)
  refine lv_aload_n hx hb dL_law_678 rfl (lv_at hl 5 rfl) ?_
  refine lv_iload hx hb dL_law_679 (lv_at hl 0 rfl) ?_
  refine lv_iconst (v := 0) hx hb dL_law_681 (by decide) ?_
  refine lv_iload hx hb dL_law_682 (lv_at hl 1 rfl) ?_
  refine lv_iconst (v := 2) hx hb dL_law_684 (by decide) ?_
  refine lv_idiv hx hb dL_law_685 (by decide) ?_
  refine lv_sipush (v := 5001) hx hb dL_law_686 (by decide) ?_
  refine lv_irem hx hb dL_law_689 (by decide) ?_
  refine lv_topi (fun v2 ev2 => ?_)
  have hv2 : 0 ≤ v2.toInt ∧ v2.toInt ≤ 5000 := by
      have q := rem_b (x := z / 2) (d := 5001) (div_b hz (by decide)).1 (by decide)
      rw [show (5001 : Int32).toInt = 5001 by decide] at q
      rw [ev2]
      omega
  clear ev2
  refine c_iW (P := fun r u => 0 ≤ r.toInt ∧ Cf μ1 u k n 16 v2) (a_sh (v := v2) lB Same.rf hn hv2) hw (run_V (As := [.int (nI n), .int 0, .int v2]) (rest := []) (np := 3) hf hw (k_X7_strain l E _ (nI n) 0 v2 lB.2.2.K) ⟨gl_V q577 q578 q579 q2 q580, by decide +kernel⟩ ⟨rfl, rfl, Nat.le_of_ble_eq_true rfl, Nat.le_of_ble_eq_true rfl⟩ (by decide) (c_O E _) rfl rfl hl.1 rfl (Nat.le_of_ble_eq_true rfl) dL_law_690 ⟨Nat.le_of_ble_eq_true rfl, Nat.le_of_ble_eq_true rfl⟩) (fun r2 μ2 H locs s2 hw => ?_)
  obtain ⟨hr2, eC, lC⟩ := s2
  have h1c := lC.1.2.1.2
  refine lv_if_lt (tgt := 715) hx hb dL_law_693 (by decide) (fun c => absurd c (by rw [Int32.lt_iff_toInt_lt, Int32.toInt_zero]; omega)) (fun _ => ?_)
  refine lv_aload_n hx hb dL_law_696 rfl (lv_at hl 5 rfl) ?_
  refine lv_iload hx hb dL_law_697 (lv_at hl 0 rfl) ?_
  refine lv_bipush (v := 11) hx hb dL_law_699 (by decide) ?_
  refine c_iV (v := v1) (P := fun z => Same μ2 z) (⟨(a_s11 Same.rf h1c (show 4 ≤ 6 by decide) hn).1.trans (by rw [eC, ur_n (by unfold sF; omega), eB]; exact ur_s), (a_s11 Same.rf h1c (show 4 ≤ 6 by decide) hn).2⟩) hw (run_V (As := [.int (nI n), .int 11]) (rest := []) (np := 2) hf hw (k_X7_sensorOf l E _ (nI n) 11) ⟨gl_V q199 q200 q201 q2 q202, by decide +kernel⟩ ⟨rfl, rfl, Nat.le_of_ble_eq_true rfl, Nat.le_of_ble_eq_true rfl⟩ (by decide) (c_O E _) rfl rfl hl.1 rfl (Nat.le_of_ble_eq_true rfl) dL_law_701 ⟨Nat.le_of_ble_eq_true rfl, Nat.le_of_ble_eq_true rfl⟩) (fun μ3 H locs s3 hw => ?_)
  refine lv_iload hx hb dL_law_704 (lv_at hl 1 rfl) ?_
  refine lv_iconst (v := 2) hx hb dL_law_706 (by decide) ?_
  refine lv_irem hx hb dL_law_707 (by decide) ?_
  refine lv_icmp_ne (tgt := 715) hx hb dL_law_708 (by decide) (fun c => absurd ev1 c) (fun _ => ?_)
  refine lv_iconst (v := 1) hx hb dL_law_711 (by decide) ?_
  refine lv_goto (tgt := 716) hx hb dL_law_712 (by decide) ?_
  refine lv_istore_n (lv' := [(2, .int 1), (6, .int (nI n)), (5, .int z), (4, .int y), (3, .int (nI k)), (1, .ref (E.1 231)), (0, .ref b)]) hx hb dL_law_716 rfl hl (by decide) rfl (fun ls hl => ?_)
  exact kk _ _ _ _ (lC.same s3).mono (lv_sub hl [0, 4, 2, 5, 6] rfl) hw

end LW
