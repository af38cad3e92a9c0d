/-! ===== the law: nodes ===== -/
section LV
variable {p : Program} {l : Launch} {e : Env} {s : State} {m : MethodId} {below : List Frame} {meth : Method} {c : Code} {H : Heap} {locs : List Loc} {Q : State → Prop}
variable {ls : Array Slot} {E : En} {μ : Mu} {b L : Nat} {xs : Nat → Int32}
set_option maxHeartbeats 8000000 in
set_option maxRecDepth 100000 in
theorem law_nodes (hf : CallFix p m c code 14 s #[Value.ref b] wsL_law RL) (hX : va_X b L xs s s.heap) (hbl : b < s.heap.size) (hbA : ¬ inE E b) (hL : L < 2 ^ 31) {t : Nat} (ht : t < 2)
    (kk : ∀ (μ : Mu) (H : Heap) (locs : List Loc) (ls : Array Slot), Nb (μ.1 0) t 4 → Hok μ → lv_has ls 14 [(3, .int (nI t)), (2, .int 1), (1, .ref (E.1 231)), (0, .ref b)] → Wk E μ s H locs → W p l e room_1 s m #[Value.ref b] below meth c H locs 232 1863 Q (F0 m 152 ls [])) : ∀ (f k : Nat) (d ra : Int32) (μ : Mu) (H : Heap) (locs : List Loc) (ls : Array Slot), k + f = 4 → Nb (μ.1 0) t k → Hok μ → (-200000 ≤ d.toInt ∧ d.toInt ≤ -50001 + 200000 * (k : Int)) → (1 ≤ ra.toInt ∧ ra.toInt ≤ 300000 + 900000 * (k : Int)) → (∀ i, k = i + 1 → dI (μ.1 0) t i < d.toInt ∧ rI (μ.1 0) t i < ra.toInt) → lv_has ls 14 [(6, .int (nI k)), (5, .int ra), (4, .int d), (2, .int 1), (3, .int (nI t)), (1, .ref (E.1 231)), (0, .ref b)] → Wk E μ s H locs → W p l e room_1 s m #[Value.ref b] below meth c H locs 232 1863 Q (F0 m 69 ls []) := by
  have hx := hf.1
  have hb := hf.2.1
  intro f
  induction f with
  | zero =>
    intro k d ra μ H locs ls hkf hn hO hd hra hp hl hw
    refine lv_iload hx hb dL_law_69 (lv_at hl 0 rfl) ?_
    refine lv_iconst (v := 4) hx hb dL_law_71 (by decide) ?_
    refine lv_icmp_ge (tgt := 152) hx hb dL_law_72 (by decide) (fun _ => ?_) (fun c => absurd (show (4 : Int32) ≤ nI k from by rw [show k = 4 by omega]; decide) c)
    exact kk _ _ _ _ (by rw [show k = 4 by omega] at hn; exact hn) hO (lv_sub hl [4, 3, 5, 6] rfl) hw
  | succ f ih =>
    intro k d ra μ H locs ls hkf hn hO hd hra hp hl hw
    exact law_node hf hX hbl hbA hL ht (by omega) hn hO hd hra hp hl hw (fun μ H locs ls d ra q1 q2 q3 q4 q5 hl hw => ih (k + 1) d ra μ H locs ls (by omega) q1 q2 q3 q4 q5 hl hw)
end LV
