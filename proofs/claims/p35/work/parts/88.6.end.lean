/-! ===== the law: end ===== -/
section LV
variable {p : Program} {l : Launch} {e : Env} {s : State} {m : MethodId} {below : List Frame} {meth : Method} {c : Code} {H : Heap} {locs : List Loc} {Q : State → Prop}
variable {ls : Array Slot} {E : En} {μ : Mu} {b L : Nat} {xs : Nat → Int32}
theorem a_sc {μ u : Mu} {B : Nat} (h : Lk μ B) (hB : B < 1000) (hs : Same μ u) : (sp_X7_scan u).1 ≠ -2000000002 ∧ Gd ((sp_X7_scan u).2.1 0) 2 4 (B + 1) ∧ Hk (sp_X7_scan u).2 (μ.1 0) := by
  have q := sc_v (μ := u) (T := 2) (N := 4) (B := B) (by rw [hs.g]; exact h.1) (by decide) hB (h.2.2.same hs) (by rw [hs.g]; exact h.2.1)
  rw [hs.g] at q
  exact q
set_option maxHeartbeats 8000000 in
set_option maxRecDepth 100000 in
theorem law_end (hf : CallFix p m c code 14 s #[Value.ref b] wsL_law RL) (hX : va_X b L xs s s.heap) (hbl : b < s.heap.size) (hbA : ¬ inE E b) (hL : L < 2 ^ 31) {k : Nat} (hr : meth.sig.returnType = ret) (hlocks : meth.locks = false) (hA : ∀ q, inE E q → s.heap.size ≤ q) (hk : k < 100) (h : Lk μ k) (hl : lv_has ls 14 [(3, .int (nI k)), (2, .int 1), (1, .ref (E.1 231)), (0, .ref b)]) (hw : Wk E μ s H locs)
     : W p l e room_1 s m #[Value.ref b] below meth c H locs 232 1863 (lw_Z below #[Value.ref b] s) (F0 m 742 ls []) := by
  have hx := hf.1
  have hb := hf.2.1
  refine lv_aload_n hx hb dL_law_742 rfl (lv_at hl 2 rfl) ?_
  refine lv_iconst (v := 4) hx hb dL_law_743 (by decide) ?_
  refine c_iV (v := sp_X4_allReadings (μ.1 0)) (P := fun z => Same μ z) (a_c4 Same.rf) hw (run_V (As := [.int 4]) (rest := []) (np := 1) hf hw (k_X7_count l E _ 4) ⟨gl_V q98 q99 q100 q2 q101, by decide +kernel⟩ ⟨rfl, rfl, Nat.le_of_ble_eq_true rfl, Nat.le_of_ble_eq_true rfl⟩ (by decide) (c_O E _) rfl rfl hl.1 rfl (Nat.le_of_ble_eq_true rfl) dL_law_744 ⟨Nat.le_of_ble_eq_true rfl, Nat.le_of_ble_eq_true rfl⟩) (fun μ1 H locs s1 hw => ?_)
  refine lv_istore_n (lv' := [(3, .int (sp_X4_allReadings (μ.1 0))), (2, .int 1), (1, .ref (E.1 231)), (0, .ref b)]) hx hb dL_law_747 rfl hl (by decide) rfl (fun ls hl => ?_)
  refine lv_aload_n hx hb dL_law_748 rfl (lv_at hl 2 rfl) ?_
  refine lv_iconst (v := 0) hx hb dL_law_749 (by decide) ?_
  refine lv_iconst (v := 4) hx hb dL_law_750 (by decide) ?_
  refine c_iV (v := μ.1 0 (sF 0 4)) (P := fun z => Same μ z) (a_s4 (k := 0) s1 h.1.2.1.2 (show 4 ≤ 6 by decide) (show 0 < 4 by decide)) hw (run_V (As := [.int 0, .int 4]) (rest := []) (np := 2) hf hw (k_X7_sensorOf l E _ 0 4) ⟨gl_V q199 q200 q201 q2 q202, by decide +kernel⟩ ⟨rfl, rfl, Nat.le_of_ble_eq_true rfl, Nat.le_of_ble_eq_true rfl⟩ (by decide) (c_O E _) rfl rfl hl.1 rfl (Nat.le_of_ble_eq_true rfl) dL_law_751 ⟨Nat.le_of_ble_eq_true rfl, Nat.le_of_ble_eq_true rfl⟩) (fun μ2 H locs s2 hw => ?_)
  refine lv_istore (lv' := [(4, .int (μ.1 0 (sF 0 4))), (3, .int (sp_X4_allReadings (μ.1 0))), (2, .int 1), (1, .ref (E.1 231)), (0, .ref b)]) hx hb dL_law_754 hl (by decide) rfl (fun ls hl => ?_)
  refine lv_iload_n hx hb dL_law_756 rfl (lv_at hl 2 rfl) ?_
  refine lv_if_eq (tgt := 818) hx hb dL_law_757 (by decide) (fun c => absurd c (by decide)) (fun _ => ?_)
  refine lv_aload_n hx hb dL_law_760 rfl (lv_at hl 3 rfl) ?_
  refine c_iW (P := fun r u => r ≠ -2000000002 ∧ Gd (u.1 0) 2 4 (k + 1) ∧ Hk u (μ.1 0)) (a_sc h (by omega) s2) hw (run_V (As := []) (rest := []) (np := 0) hf hw (k_X7_scan l E _  ((h.2.2.same s2).K)) ⟨gl_V q587 q588 q589 q2 q590, by decide +kernel⟩ ⟨rfl, rfl, Nat.le_of_ble_eq_true rfl, Nat.le_of_ble_eq_true rfl⟩ (by decide) (c_O E _) rfl rfl hl.1 rfl (Nat.le_of_ble_eq_true rfl) dL_law_761 ⟨Nat.le_of_ble_eq_true rfl, Nat.le_of_ble_eq_true rfl⟩) (fun r3 μ3 H locs s3 hw => ?_)
  obtain ⟨rn, gS, kS⟩ := s3
  refine lv_ldc hx hb hf.2.2.2.1 (hf.2.2.2.2 _ q9) dL_law_764 ?_
  refine lv_icmp_eq (tgt := 818) hx hb dL_law_766 (by decide) (fun c => absurd c rn) (fun _ => ?_)
  refine lv_aload_n hx hb dL_law_769 rfl (lv_at hl 3 rfl) ?_
  refine lv_bipush (v := 7) hx hb dL_law_770 (by decide) ?_
  refine c_i1 hw (run_S (As := [.ref (E.1 231), .int 7]) (rest := []) (np := 2) hf hw (k_L_holds l E _ (T := 2) (N := 4) (B := k + 1) (y := 7) gS (by decide)) ⟨gl_S q94 q95 q96 q97, by decide +kernel⟩ ⟨rfl, rfl, Nat.le_of_ble_eq_true rfl, Nat.le_of_ble_eq_true rfl⟩ rfl hl.1 rfl (Nat.le_of_ble_eq_true rfl) dL_law_772 ⟨Nat.le_of_ble_eq_true rfl, Nat.le_of_ble_eq_true rfl⟩) (fun μ4 H locs s4 hw => ?_)
  have t4 := Same.rf.tr s4
  refine lv_if_eq (tgt := 818) hx hb dL_law_775 (by decide) (fun c => absurd c (by decide)) (fun _ => ?_)
  obtain ⟨⟨st, hst, est⟩, eg, eok⟩ := undo_hk (kS.same t4)
  refine lv_aload_n hx hb dL_law_778 rfl (lv_at hl 3 rfl) ?_
  refine c_iV (v := nI st) (P := fun z => z.1 0 = μ.1 0 ∧ Hok z) (⟨est, eg, eok⟩) hw (run_V (As := []) (rest := []) (np := 0) hf hw (k_X7_undo l E _  ((kS.same t4).ok.K)) ⟨gl_V q495 q496 q497 q2 q498, by decide +kernel⟩ ⟨rfl, rfl, Nat.le_of_ble_eq_true rfl, Nat.le_of_ble_eq_true rfl⟩ (by decide) (c_O E _) rfl rfl hl.1 rfl (Nat.le_of_ble_eq_true rfl) dL_law_779 ⟨Nat.le_of_ble_eq_true rfl, Nat.le_of_ble_eq_true rfl⟩) (fun μ5 H locs s5 hw => ?_)
  obtain ⟨e6, k6⟩ := s5
  have h1c : μ5.1 0 1 = nI 4 := by rw [e6]; exact h.1.2.1.2
  refine lv_if_lt (tgt := 818) hx hb dL_law_782 (by decide) (fun c => absurd c (nI_pos (by omega))) (fun _ => ?_)
  refine lv_aload_n hx hb dL_law_785 rfl (lv_at hl 3 rfl) ?_
  refine lv_iconst (v := 4) hx hb dL_law_786 (by decide) ?_
  refine c_iV (v := sp_X4_allReadings (μ.1 0)) (P := fun z => Same μ5 z) (⟨(a_c4 Same.rf).1.trans (by rw [e6]), (a_c4 Same.rf).2⟩) hw (run_V (As := [.int 4]) (rest := []) (np := 1) hf hw (k_X7_count l E _ 4) ⟨gl_V q98 q99 q100 q2 q101, by decide +kernel⟩ ⟨rfl, rfl, Nat.le_of_ble_eq_true rfl, Nat.le_of_ble_eq_true rfl⟩ (by decide) (c_O E _) rfl rfl hl.1 rfl (Nat.le_of_ble_eq_true rfl) dL_law_787 ⟨Nat.le_of_ble_eq_true rfl, Nat.le_of_ble_eq_true rfl⟩) (fun μ6 H locs s6 hw => ?_)
  refine lv_iload_n hx hb dL_law_790 rfl (lv_at hl 1 rfl) ?_
  refine lv_icmp_ne (tgt := 818) hx hb dL_law_791 (by decide) (fun c => absurd rfl c) (fun _ => ?_)
  refine lv_aload_n hx hb dL_law_794 rfl (lv_at hl 3 rfl) ?_
  refine lv_iconst (v := 0) hx hb dL_law_795 (by decide) ?_
  refine lv_iconst (v := 4) hx hb dL_law_796 (by decide) ?_
  refine c_iV (v := μ.1 0 (sF 0 4)) (P := fun z => Same μ5 z) (⟨(a_s4 (k := 0) s6 h1c (show 4 ≤ 6 by decide) (show 0 < 4 by decide)).1.trans (by rw [e6]), (a_s4 (k := 0) s6 h1c (show 4 ≤ 6 by decide) (show 0 < 4 by decide)).2⟩) hw (run_V (As := [.int 0, .int 4]) (rest := []) (np := 2) hf hw (k_X7_sensorOf l E _ 0 4) ⟨gl_V q199 q200 q201 q2 q202, by decide +kernel⟩ ⟨rfl, rfl, Nat.le_of_ble_eq_true rfl, Nat.le_of_ble_eq_true rfl⟩ (by decide) (c_O E _) rfl rfl hl.1 rfl (Nat.le_of_ble_eq_true rfl) dL_law_797 ⟨Nat.le_of_ble_eq_true rfl, Nat.le_of_ble_eq_true rfl⟩) (fun μ7 H locs s7 hw => ?_)
  refine lv_iload hx hb dL_law_800 (lv_at hl 0 rfl) ?_
  refine lv_icmp_ne (tgt := 818) hx hb dL_law_802 (by decide) (fun c => absurd rfl c) (fun _ => ?_)
  refine lv_aload_n hx hb dL_law_805 rfl (lv_at hl 3 rfl) ?_
  refine lv_bipush (v := 7) hx hb dL_law_806 (by decide) ?_
  refine c_i1 hw (run_S (As := [.ref (E.1 231), .int 7]) (rest := []) (np := 2) hf hw (k_L_holds l E _ (T := 2) (N := 4) (B := k) (y := 7) (by rw [s7.g, e6]; exact h.1) (by decide)) ⟨gl_S q94 q95 q96 q97, by decide +kernel⟩ ⟨rfl, rfl, Nat.le_of_ble_eq_true rfl, Nat.le_of_ble_eq_true rfl⟩ rfl hl.1 rfl (Nat.le_of_ble_eq_true rfl) dL_law_808 ⟨Nat.le_of_ble_eq_true rfl, Nat.le_of_ble_eq_true rfl⟩) (fun μ8 H locs s8 hw => ?_)
  have t8 := s7.tr s8
  refine lv_if_eq (tgt := 818) hx hb dL_law_811 (by decide) (fun c => absurd c (by decide)) (fun _ => ?_)
  refine lv_iconst (v := 1) hx hb dL_law_814 (by decide) ?_
  refine lv_goto (tgt := 819) hx hb dL_law_815 (by decide) ?_
  refine va_forget (fun q hq => hA _ (hw.2.2.2.1.2.2 q hq)) ?_
  refine W.widen (k := 600000) (n := 7302250) (Nat.le_of_ble_eq_true rfl) (Nat.le_of_ble_eq_true rfl) ?_
  exact lw_ret hx hb hr hlocks dL_law_819
end LV
