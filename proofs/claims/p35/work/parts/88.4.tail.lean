/-! ===== the law: tail ===== -/
section LV
variable {p : Program} {l : Launch} {e : Env} {s : State} {m : MethodId} {below : List Frame} {meth : Method} {c : Code} {H : Heap} {locs : List Loc} {Q : State → Prop}
variable {ls : Array Slot} {E : En} {μ : Mu} {b L : Nat} {xs : Nat → Int32}
set_option maxHeartbeats 8000000 in
set_option maxRecDepth 100000 in
theorem law_tail (hf : CallFix p m c code 14 s #[Value.ref b] wsL_law RL) (hX : va_X b L xs s s.heap) (hbl : b < s.heap.size) (hbA : ¬ inE E b) (hL : L < 2 ^ 31) {k : Nat} {z : Int32} (hz : 0 ≤ z.toInt) (h : Lk μ (k + 1)) (hl : lv_has ls 14 [(2, .int 1), (3, .int (nI k)), (5, .int z), (1, .ref (E.1 231)), (0, .ref b)]) (hw : Wk E μ s H locs)
    (kk : ∀ (μ : Mu) (H : Heap) (locs : List Loc) (ls : Array Slot), Lk μ (k + 1) → lv_has ls 14 [(3, .int (nI (k + 1))), (2, .int 1), (1, .ref (E.1 231)), (0, .ref b)] → Wk E μ s H locs → W p l e room_1 s m #[Value.ref b] below meth c H locs 232 1863 Q (F0 m 249 ls [])) : W p l e room_1 s m #[Value.ref b] below meth c H locs 232 1863 Q (F0 m 717 ls []) := by
  have hx := hf.1
  have hb := hf.2.1
  refine lv_iload_n hx hb dL_law_717 rfl (lv_at hl 0 rfl) ?_
  refine lv_if_eq (tgt := 734) hx hb dL_law_718 (by decide) (fun c => absurd c (by decide)) (fun _ => ?_)
  refine lv_aload_n hx hb dL_law_721 rfl (lv_at hl 3 rfl) ?_
  refine lv_iload hx hb dL_law_722 (lv_at hl 2 rfl) ?_
  refine c_i1 hw (run_S (As := [.ref (E.1 231), .int z]) (rest := []) (np := 2) hf hw (k_L_holds l E _ (T := 2) (N := 4) (B := k + 1) h.1 hz) ⟨gl_S q94 q95 q96 q97, by decide +kernel⟩ ⟨rfl, rfl, Nat.le_of_ble_eq_true rfl, Nat.le_of_ble_eq_true rfl⟩ rfl hl.1 rfl (Nat.le_of_ble_eq_true rfl) dL_law_724 ⟨Nat.le_of_ble_eq_true rfl, Nat.le_of_ble_eq_true rfl⟩) (fun μ1 H locs s1 hw => ?_)
  have t1 := Same.rf.tr s1
  refine lv_if_eq (tgt := 734) hx hb dL_law_727 (by decide) (fun c => absurd c (by decide)) (fun _ => ?_)
  refine lv_iconst (v := 1) hx hb dL_law_730 (by decide) ?_
  refine lv_goto (tgt := 735) hx hb dL_law_731 (by decide) ?_
  refine lv_istore_n (lv' := [(2, .int 1), (3, .int (nI k)), (5, .int z), (1, .ref (E.1 231)), (0, .ref b)]) hx hb dL_law_735 rfl hl (by decide) rfl (fun ls hl => ?_)
  refine lv_iinc (v := nI (k + 1)) (lv' := [(3, .int (nI (k + 1))), (2, .int 1), (5, .int z), (1, .ref (E.1 231)), (0, .ref b)]) hx hb dL_law_736 hl (k := 1) rfl (nI_1 _) (by decide) rfl (fun ls hl => ?_)
  refine lv_goto (tgt := 249) hx hb dL_law_739 (by decide) ?_
  exact kk _ _ _ _ (h.same t1) (lv_sub hl [0, 1, 3, 4] rfl) hw
end LV
