/-! ===== the law: steps ===== -/
section LV
variable {p : Program} {l : Launch} {e : Env} {s : State} {m : MethodId} {below : List Frame} {meth : Method} {c : Code} {H : Heap} {locs : List Loc} {Q : State → Prop}
variable {ls : Array Slot} {E : En} {μ : Mu} {b L : Nat} {xs : Nat → Int32}
set_option maxHeartbeats 8000000 in
set_option maxRecDepth 100000 in
theorem law_steps (hf : CallFix p m c code 14 s #[Value.ref b] wsL_law RL) (hX : va_X b L xs s s.heap) (hbl : b < s.heap.size) (hbA : ¬ inE E b) (hL : L < 2 ^ 31) (hr : meth.sig.returnType = ret) (hlocks : meth.locks = false) (hA : ∀ q, inE E q → s.heap.size ≤ q) : ∀ (f k : Nat) (μ : Mu) (H : Heap) (locs : List Loc) (ls : Array Slot), k + f = 26 → Lk μ k → lv_has ls 14 [(3, .int (nI k)), (2, .int 1), (1, .ref (E.1 231)), (0, .ref b)] → Wk E μ s H locs → W p l e room_1 s m #[Value.ref b] below meth c H locs 232 1863 (lw_Z below #[Value.ref b] s) (F0 m 249 ls []) := by
  have hx := hf.1
  have hb := hf.2.1
  intro f
  induction f with
  | zero =>
    intro k μ H locs ls hkf h hl hw
    refine lv_iload_n hx hb dL_law_249 rfl (lv_at hl 0 rfl) ?_
    refine lv_bipush (v := 26) hx hb dL_law_250 (by decide) ?_
    refine lv_icmp_ge (tgt := 742) hx hb dL_law_252 (by decide) (fun _ => ?_) (fun c => absurd (show (26 : Int32) ≤ nI k from by rw [show k = 26 by omega]; decide) c)
    exact law_end hf hX hbl hbA hL hr hlocks hA (by omega) h hl hw
  | succ f ih =>
    intro k μ H locs ls hkf h hl hw
    exact law_step hf hX hbl hbA hL (by omega) h hl hw (fun μ H locs ls h hl hw => ih (k + 1) μ H locs ls (by omega) h hl hw)
end LV
