/-! ===== the law: table ===== -/
section LV
variable {p : Program} {l : Launch} {e : Env} {s : State} {m : MethodId} {below : List Frame} {meth : Method} {c : Code} {H : Heap} {locs : List Loc} {Q : State → Prop}
variable {ls : Array Slot} {E : En} {μ : Mu} {b L : Nat} {xs : Nat → Int32}
set_option maxHeartbeats 8000000 in
set_option maxRecDepth 100000 in
theorem law_table (hf : CallFix p m c code 14 s #[Value.ref b] wsL_law RL) (hX : va_X b L xs s s.heap) (hbl : b < s.heap.size) (hbA : ¬ inE E b) (hL : L < 2 ^ 31) {t : Nat} (ht : t < 2) (hn : Na (μ.1 0) t) (hO : Hok μ) (hl : lv_has ls 14 [(3, .int (nI t)), (2, .int 1), (1, .ref (E.1 231)), (0, .ref b)]) (hw : Wk E μ s H locs)
    (kk : ∀ (μ : Mu) (H : Heap) (locs : List Loc) (ls : Array Slot), Na (μ.1 0) (t + 1) → Hok μ → lv_has ls 14 [(3, .int (nI (t + 1))), (2, .int 1), (1, .ref (E.1 231)), (0, .ref b)] → Wk E μ s H locs → W p l e room_1 s m #[Value.ref b] below meth c H locs 232 1863 Q (F0 m 16 ls [])) : W p l e room_1 s m #[Value.ref b] below meth c H locs 232 1863 Q (F0 m 16 ls []) := by
  have hx := hf.1
  have hb := hf.2.1
  refine lv_iload_n hx hb dL_law_16 rfl (lv_at hl 0 rfl) ?_
  refine lv_iconst (v := 2) hx hb dL_law_17 (by decide) ?_
  refine lv_icmp_ge (tgt := 158) hx hb dL_law_18 (by decide) (fun c => absurd c (fun q => by have := (nI_leI (a := 2) (b := t) (by omega) (by omega)).mp q; omega)) (fun _ => ?_)
  refine lv_iload_n hx hb dL_law_21 rfl (lv_at hl 1 rfl) ?_
  refine lv_if_eq (tgt := 158) hx hb dL_law_22 (by decide) (fun c => absurd c (by decide)) (fun _ => ?_)
  refine lv_ldc hx hb hf.2.2.2.1 (hf.2.2.2.2 _ q3) dL_law_25 ?_
  refine lv_aload_n hx hb dL_law_27 rfl (lv_at hl 3 rfl) ?_
  refine lv_iload_n hx hb dL_law_28 rfl (lv_at hl 0 rfl) ?_
  refine c_cell (k := nI t) hf hw hX hbl hbA hL (nI_pos (by omega)) ⟨Nat.le_of_ble_eq_true rfl, Nat.le_of_ble_eq_true rfl⟩ hl.1 (Nat.le_of_ble_eq_true rfl) dL_law_29 ⟨Nat.le_of_ble_eq_true rfl, Nat.le_of_ble_eq_true rfl⟩ (fun r1 H locs hr1 hw => ?_)
  refine lv_ldc hx hb hf.2.2.2.1 (hf.2.2.2.2 _ q4) dL_law_32 ?_
  refine lv_irem hx hb dL_law_34 (by decide) ?_
  refine lv_iadd hx hb dL_law_35 ?_
  refine lv_topi (fun d ed => ?_)
  have hd : -200000 ≤ d.toInt ∧ d.toInt ≤ -50001 := by
      have q := rem_a (a := -200000) (z := r1) (d := 150000) (n := 150000) (by decide) hr1 (by decide) (by decide) (by decide)
      rw [show (-200000 : Int32).toInt = -200000 by decide] at q
      rw [ed]
      omega
  clear ed
  refine lv_istore (lv' := [(4, .int d), (3, .int (nI t)), (2, .int 1), (1, .ref (E.1 231)), (0, .ref b)]) hx hb dL_law_36 hl (by decide) rfl (fun ls hl => ?_)
  refine lv_iconst (v := 1) hx hb dL_law_38 (by decide) ?_
  refine lv_aload_n hx hb dL_law_39 rfl (lv_at hl 4 rfl) ?_
  refine lv_iconst (v := 2) hx hb dL_law_40 (by decide) ?_
  refine lv_iload_n hx hb dL_law_41 rfl (lv_at hl 1 rfl) ?_
  refine lv_iadd hx hb dL_law_42 ?_
  refine fold_i (show (2 + nI t : Int32) = nI (2 + t) from nI_add 2 t) ?_
  refine c_cell (k := nI (2 + t)) hf hw hX hbl hbA hL (nI_pos (by omega)) ⟨Nat.le_of_ble_eq_true rfl, Nat.le_of_ble_eq_true rfl⟩ hl.1 (Nat.le_of_ble_eq_true rfl) dL_law_43 ⟨Nat.le_of_ble_eq_true rfl, Nat.le_of_ble_eq_true rfl⟩ (fun r2 H locs hr2 hw => ?_)
  refine lv_ldc hx hb hf.2.2.2.1 (hf.2.2.2.2 _ q5) dL_law_46 ?_
  refine lv_irem hx hb dL_law_48 (by decide) ?_
  refine lv_iadd hx hb dL_law_49 ?_
  refine lv_topi (fun ra era => ?_)
  have hra : 1 ≤ ra.toInt ∧ ra.toInt ≤ 300000 := by
      have q := rem_a (a := 1) (z := r2) (d := 300000) (n := 300000) (by decide) hr2 (by decide) (by decide) (by decide)
      rw [show (1 : Int32).toInt = 1 by decide] at q
      rw [era]
      omega
  clear era
  refine lv_istore (lv' := [(5, .int ra), (4, .int d), (3, .int (nI t)), (2, .int 1), (1, .ref (E.1 231)), (0, .ref b)]) hx hb dL_law_50 hl (by decide) rfl (fun ls hl => ?_)
  refine lv_aload_n hx hb dL_law_52 rfl (lv_at hl 4 rfl) ?_
  refine c_iV (v := nI t) (P := fun z => Nb (z.1 0) t 0 ∧ Hok z) (tl_v hn (by omega) hO) hw (run_V (As := []) (rest := []) (np := 0) hf hw (k_X7_table l E _  hO.K) ⟨gl_V q387 q388 q389 q2 q390, by decide +kernel⟩ ⟨rfl, rfl, Nat.le_of_ble_eq_true rfl, Nat.le_of_ble_eq_true rfl⟩ (by decide) (c_O E _) rfl rfl hl.1 rfl (Nat.le_of_ble_eq_true rfl) dL_law_53 ⟨Nat.le_of_ble_eq_true rfl, Nat.le_of_ble_eq_true rfl⟩) (fun μ3 H locs s3 hw => ?_)
  refine lv_iload_n hx hb dL_law_56 rfl (lv_at hl 2 rfl) ?_
  refine lv_icmp_ne (tgt := 64) hx hb dL_law_57 (by decide) (fun c => absurd rfl c) (fun _ => ?_)
  refine lv_iconst (v := 1) hx hb dL_law_60 (by decide) ?_
  refine lv_goto (tgt := 65) hx hb dL_law_61 (by decide) ?_
  refine lv_istore_n (lv' := [(2, .int 1), (5, .int ra), (4, .int d), (3, .int (nI t)), (1, .ref (E.1 231)), (0, .ref b)]) hx hb dL_law_65 rfl hl (by decide) rfl (fun ls hl => ?_)
  refine lv_iconst (v := 0) hx hb dL_law_66 (by decide) ?_
  refine lv_istore (lv' := [(6, .int 0), (2, .int 1), (5, .int ra), (4, .int d), (3, .int (nI t)), (1, .ref (E.1 231)), (0, .ref b)]) hx hb dL_law_67 hl (by decide) rfl (fun ls hl => ?_)
  refine law_nodes hf hX hbl hbA hL ht (fun μ H locs ls n4 o4 hl hw => ?_) 4 0 d ra _ _ _ _ rfl s3.1 s3.2 ⟨by omega, by omega⟩ ⟨by omega, by omega⟩ (fun i hi => by omega) (lv_sub hl [0, 2, 3, 1, 4, 5, 6] rfl) hw
  refine lv_iinc (v := nI (t + 1)) (lv' := [(3, .int (nI (t + 1))), (2, .int 1), (1, .ref (E.1 231)), (0, .ref b)]) hx hb dL_law_152 hl (k := 0) rfl (nI_1 _) (by decide) rfl (fun ls hl => ?_)
  refine lv_goto (tgt := 16) hx hb dL_law_155 (by decide) ?_
  exact kk μ H locs ls (nb_na n4) o4 (lv_sub hl [0, 1, 2, 3] rfl) hw
end LV
