/-! ===== the law: tables ===== -/
section LV
variable {p : Program} {l : Launch} {e : Env} {s : State} {m : MethodId} {below : List Frame} {meth : Method} {c : Code} {H : Heap} {locs : List Loc} {Q : State → Prop}
variable {ls : Array Slot} {E : En} {μ : Mu} {b L : Nat} {xs : Nat → Int32}
set_option maxHeartbeats 8000000 in
set_option maxRecDepth 100000 in
theorem law_tables (hf : CallFix p m c code 14 s #[Value.ref b] wsL_law RL) (hX : va_X b L xs s s.heap) (hbl : b < s.heap.size) (hbA : ¬ inE E b) (hL : L < 2 ^ 31) (hr : meth.sig.returnType = ret) (hlocks : meth.locks = false) (hA : ∀ q, inE E q → s.heap.size ≤ q) : ∀ (f t : Nat) (μ : Mu) (H : Heap) (locs : List Loc) (ls : Array Slot), t + f = 2 → Na (μ.1 0) t → Hok μ → lv_has ls 14 [(3, .int (nI t)), (2, .int 1), (1, .ref (E.1 231)), (0, .ref b)] → Wk E μ s H locs → W p l e room_1 s m #[Value.ref b] below meth c H locs 232 1863 (lw_Z below #[Value.ref b] s) (F0 m 16 ls []) := by
  have hx := hf.1
  have hb := hf.2.1
  intro f
  induction f with
  | zero =>
    intro t μ H locs ls htf h hO hl hw
    refine lv_iload_n hx hb dL_law_16 rfl (lv_at hl 0 rfl) ?_
    refine lv_iconst (v := 2) hx hb dL_law_17 (by decide) ?_
    refine lv_icmp_ge (tgt := 158) hx hb dL_law_18 (by decide) (fun _ => ?_) (fun c => absurd (show (2 : Int32) ≤ nI t from by rw [show t = 2 by omega]; decide) c)
    refine lv_iconst (v := 0) hx hb dL_law_158 (by decide) ?_
    refine lv_istore_n (lv' := [(3, .int 0), (2, .int 1), (1, .ref (E.1 231)), (0, .ref b)]) hx hb dL_law_159 rfl hl (by decide) rfl (fun ls hl => ?_)
    rw [show t = 2 by omega] at h
    exact law_sensors hf hX hbl hbA hL hr hlocks hA 4 0 _ _ _ _ rfl (na_gd h (by decide)) h.1.2.2 hO (lv_sub hl [0, 1, 2, 3] rfl) hw
  | succ f ih =>
    intro t μ H locs ls htf h hO hl hw
    exact law_table hf hX hbl hbA hL (by omega) h hO hl hw (fun μ H locs ls h hO hl hw => ih (t + 1) μ H locs ls (by omega) h hO hl hw)
end LV
