/-! ===== the law: node ===== -/
section LV
variable {p : Program} {l : Launch} {e : Env} {s : State} {m : MethodId} {below : List Frame} {meth : Method} {c : Code} {H : Heap} {locs : List Loc} {Q : State → Prop}
variable {ls : Array Slot} {E : En} {μ : Mu} {b L : Nat} {xs : Nat → Int32}
set_option maxHeartbeats 8000000 in
set_option maxRecDepth 100000 in
theorem law_node (hf : CallFix p m c code 14 s #[Value.ref b] wsL_law RL) (hX : va_X b L xs s s.heap) (hbl : b < s.heap.size) (hbA : ¬ inE E b) (hL : L < 2 ^ 31) {t k : Nat} {d ra : Int32} (ht : t < 2) (hk : k < 4) (hn : Nb (μ.1 0) t k) (hO : Hok μ) (hd : -200000 ≤ d.toInt ∧ d.toInt ≤ -50001 + 200000 * (k : Int)) (hra : 1 ≤ ra.toInt ∧ ra.toInt ≤ 300000 + 900000 * (k : Int)) (hp : ∀ i, k = i + 1 → dI (μ.1 0) t i < d.toInt ∧ rI (μ.1 0) t i < ra.toInt) (hl : lv_has ls 14 [(6, .int (nI k)), (5, .int ra), (4, .int d), (2, .int 1), (3, .int (nI t)), (1, .ref (E.1 231)), (0, .ref b)]) (hw : Wk E μ s H locs)
    (kk : ∀ (μ : Mu) (H : Heap) (locs : List Loc) (ls : Array Slot) (d ra : Int32), Nb (μ.1 0) t (k + 1) → Hok μ → (-200000 ≤ d.toInt ∧ d.toInt ≤ -50001 + 200000 * ((k + 1 : Nat) : Int)) → (1 ≤ ra.toInt ∧ ra.toInt ≤ 300000 + 900000 * ((k + 1 : Nat) : Int)) → (∀ i, k + 1 = i + 1 → dI (μ.1 0) t i < d.toInt ∧ rI (μ.1 0) t i < ra.toInt) → lv_has ls 14 [(6, .int (nI (k + 1))), (5, .int ra), (4, .int d), (2, .int 1), (3, .int (nI t)), (1, .ref (E.1 231)), (0, .ref b)] → Wk E μ s H locs → W p l e room_1 s m #[Value.ref b] below meth c H locs 232 1863 Q (F0 m 69 ls [])) : W p l e room_1 s m #[Value.ref b] below meth c H locs 232 1863 Q (F0 m 69 ls []) := by
  have hx := hf.1
  have hb := hf.2.1
  refine lv_iload hx hb dL_law_69 (lv_at hl 0 rfl) ?_
  refine lv_iconst (v := 4) hx hb dL_law_71 (by decide) ?_
  refine lv_icmp_ge (tgt := 152) hx hb dL_law_72 (by decide) (fun c => absurd c (fun q => by have := (nI_leI (a := 4) (b := k) (by omega) (by omega)).mp q; omega)) (fun _ => ?_)
  refine lv_iload_n hx hb dL_law_75 rfl (lv_at hl 3 rfl) ?_
  refine lv_if_eq (tgt := 152) hx hb dL_law_76 (by decide) (fun c => absurd c (by decide)) (fun _ => ?_)
  refine lv_aload_n hx hb dL_law_79 rfl (lv_at hl 5 rfl) ?_
  refine lv_iload_n hx hb dL_law_80 rfl (lv_at hl 4 rfl) ?_
  refine lv_iload hx hb dL_law_81 (lv_at hl 2 rfl) ?_
  refine lv_iload hx hb dL_law_83 (lv_at hl 1 rfl) ?_
  refine c_iV (v := nI (k + 1)) (P := fun z => Nb (z.1 0) t (k + 1) ∧ Hok z ∧ dI (z.1 0) t k = d.toInt ∧ rI (z.1 0) t k = ra.toInt) (nd_v hn ht hk hO (by omega) (by omega) hp) hw (run_V (As := [.int (nI t), .int d, .int ra]) (rest := []) (np := 3) hf hw (k_X7_node l E _ (nI t) d ra hO.K) ⟨gl_V q425 q426 q427 q2 q428, by decide +kernel⟩ ⟨rfl, rfl, Nat.le_of_ble_eq_true rfl, Nat.le_of_ble_eq_true rfl⟩ (by decide) (c_O E _) rfl rfl hl.1 rfl (Nat.le_of_ble_eq_true rfl) dL_law_85 ⟨Nat.le_of_ble_eq_true rfl, Nat.le_of_ble_eq_true rfl⟩) (fun μ1 H locs s1 hw => ?_)
  obtain ⟨n2, o2, e3, e4⟩ := s1
  refine lv_iload hx hb dL_law_88 (lv_at hl 0 rfl) ?_
  refine lv_iconst (v := 1) hx hb dL_law_90 (by decide) ?_
  refine lv_iadd hx hb dL_law_91 ?_
  refine fold_i (show (nI k + 1 : Int32) = nI (k + 1) from nI_add k 1) ?_
  refine lv_icmp_ne (tgt := 99) hx hb dL_law_92 (by decide) (fun c => absurd rfl c) (fun _ => ?_)
  refine lv_iconst (v := 1) hx hb dL_law_95 (by decide) ?_
  refine lv_goto (tgt := 100) hx hb dL_law_96 (by decide) ?_
  refine lv_istore_n (lv' := [(2, .int 1), (6, .int (nI k)), (5, .int ra), (4, .int d), (3, .int (nI t)), (1, .ref (E.1 231)), (0, .ref b)]) hx hb dL_law_100 rfl hl (by decide) rfl (fun ls hl => ?_)
  refine lv_iload hx hb dL_law_101 (lv_at hl 3 rfl) ?_
  refine lv_iconst (v := 1) hx hb dL_law_103 (by decide) ?_
  refine lv_aload_n hx hb dL_law_104 rfl (lv_at hl 6 rfl) ?_
  refine lv_iconst (v := 4) hx hb dL_law_105 (by decide) ?_
  refine lv_iconst (v := 4) hx hb dL_law_106 (by decide) ?_
  refine lv_iload_n hx hb dL_law_107 rfl (lv_at hl 4 rfl) ?_
  refine lv_imul hx hb dL_law_108 ?_
  refine fold_i (show 4 * (nI t) = nI (4 * t) from pk_mul 4 t) ?_
  refine lv_iadd hx hb dL_law_109 ?_
  refine fold_i (show (4 + nI (4 * t) : Int32) = nI (4 + (4 * t)) from nI_add 4 (4 * t)) ?_
  refine lv_iload hx hb dL_law_110 (lv_at hl 1 rfl) ?_
  refine lv_iadd hx hb dL_law_112 ?_
  refine fold_i (show (nI (4 + (4 * t)) + nI k : Int32) = nI (4 + (4 * t) + k) from nI_add (4 + (4 * t)) k) ?_
  refine c_cell (k := nI (4 + (4 * t) + k)) hf hw hX hbl hbA hL (nI_pos (by omega)) ⟨Nat.le_of_ble_eq_true rfl, Nat.le_of_ble_eq_true rfl⟩ hl.1 (Nat.le_of_ble_eq_true rfl) dL_law_113 ⟨Nat.le_of_ble_eq_true rfl, Nat.le_of_ble_eq_true rfl⟩ (fun r2 H locs hr2 hw => ?_)
  refine lv_ldc hx hb hf.2.2.2.1 (hf.2.2.2.2 _ q6) dL_law_116 ?_
  refine lv_irem hx hb dL_law_118 (by decide) ?_
  refine lv_iadd hx hb dL_law_119 ?_
  refine lv_topi (fun f1 ef1 => ?_)
  have hf1 : 1 ≤ f1.toInt ∧ f1.toInt ≤ 200000 := by
      have q := rem_a (a := 1) (z := r2) (d := 200000) (n := 200000) (by decide) hr2 (by decide) (by decide) (by decide)
      rw [show (1 : Int32).toInt = 1 by decide] at q
      rw [ef1]
      omega
  clear ef1
  refine lv_iadd hx hb dL_law_120 ?_
  refine lv_topi (fun d2 ed2 => ?_)
  have hd2 : d2.toInt = d.toInt + f1.toInt := by rw [ed2, Int32.toInt_add, I_of _ (by omega)]
  clear ed2
  refine lv_istore (lv' := [(4, .int d2), (2, .int 1), (6, .int (nI k)), (5, .int ra), (3, .int (nI t)), (1, .ref (E.1 231)), (0, .ref b)]) hx hb dL_law_121 hl (by decide) rfl (fun ls hl => ?_)
  refine lv_iload hx hb dL_law_123 (lv_at hl 3 rfl) ?_
  refine lv_iconst (v := 1) hx hb dL_law_125 (by decide) ?_
  refine lv_aload_n hx hb dL_law_126 rfl (lv_at hl 6 rfl) ?_
  refine lv_bipush (v := 12) hx hb dL_law_127 (by decide) ?_
  refine lv_iconst (v := 4) hx hb dL_law_129 (by decide) ?_
  refine lv_iload_n hx hb dL_law_130 rfl (lv_at hl 4 rfl) ?_
  refine lv_imul hx hb dL_law_131 ?_
  refine fold_i (show 4 * (nI t) = nI (4 * t) from pk_mul 4 t) ?_
  refine lv_iadd hx hb dL_law_132 ?_
  refine fold_i (show (12 + nI (4 * t) : Int32) = nI (12 + (4 * t)) from nI_add 12 (4 * t)) ?_
  refine lv_iload hx hb dL_law_133 (lv_at hl 2 rfl) ?_
  refine lv_iadd hx hb dL_law_135 ?_
  refine fold_i (show (nI (12 + (4 * t)) + nI k : Int32) = nI (12 + (4 * t) + k) from nI_add (12 + (4 * t)) k) ?_
  refine c_cell (k := nI (12 + (4 * t) + k)) hf hw hX hbl hbA hL (nI_pos (by omega)) ⟨Nat.le_of_ble_eq_true rfl, Nat.le_of_ble_eq_true rfl⟩ hl.1 (Nat.le_of_ble_eq_true rfl) dL_law_136 ⟨Nat.le_of_ble_eq_true rfl, Nat.le_of_ble_eq_true rfl⟩ (fun r3 H locs hr3 hw => ?_)
  refine lv_ldc hx hb hf.2.2.2.1 (hf.2.2.2.2 _ q7) dL_law_139 ?_
  refine lv_irem hx hb dL_law_141 (by decide) ?_
  refine lv_iadd hx hb dL_law_142 ?_
  refine lv_topi (fun f2 ef2 => ?_)
  have hf2 : 1 ≤ f2.toInt ∧ f2.toInt ≤ 900000 := by
      have q := rem_a (a := 1) (z := r3) (d := 900000) (n := 900000) (by decide) hr3 (by decide) (by decide) (by decide)
      rw [show (1 : Int32).toInt = 1 by decide] at q
      rw [ef2]
      omega
  clear ef2
  refine lv_iadd hx hb dL_law_143 ?_
  refine lv_topi (fun ra2 era2 => ?_)
  have hra2 : ra2.toInt = ra.toInt + f2.toInt := by rw [era2, Int32.toInt_add, I_of _ (by omega)]
  clear era2
  refine lv_istore (lv' := [(5, .int ra2), (4, .int d2), (2, .int 1), (6, .int (nI k)), (3, .int (nI t)), (1, .ref (E.1 231)), (0, .ref b)]) hx hb dL_law_144 hl (by decide) rfl (fun ls hl => ?_)
  refine lv_iinc (v := nI (k + 1)) (lv' := [(6, .int (nI (k + 1))), (5, .int ra2), (4, .int d2), (2, .int 1), (3, .int (nI t)), (1, .ref (E.1 231)), (0, .ref b)]) hx hb dL_law_146 hl (k := 3) rfl (nI_1 _) (by decide) rfl (fun ls hl => ?_)
  refine lv_goto (tgt := 69) hx hb dL_law_149 (by decide) ?_
  exact kk _ _ _ _ d2 ra2 n2 o2 ⟨by omega, by omega⟩ ⟨by omega, by omega⟩ (fun i hi => by have hik : i = k := (by omega); subst hik; exact ⟨by omega, by omega⟩) (lv_sub hl [0, 1, 2, 3, 4, 5, 6] rfl) hw
end LV
