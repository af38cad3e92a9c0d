/-! ===== the law: sensors ===== -/
section LV
variable {p : Program} {l : Launch} {e : Env} {s : State} {m : MethodId} {below : List Frame} {meth : Method} {c : Code} {H : Heap} {locs : List Loc} {Q : State → Prop}
variable {ls : Array Slot} {E : En} {μ : Mu} {b L : Nat} {xs : Nat → Int32}
set_option maxHeartbeats 8000000 in
set_option maxRecDepth 100000 in
theorem law_sensors (hf : CallFix p m c code 14 s #[Value.ref b] wsL_law RL) (hX : va_X b L xs s s.heap) (hbl : b < s.heap.size) (hbA : ¬ inE E b) (hL : L < 2 ^ 31) (hr : meth.sig.returnType = ret) (hlocks : meth.locks = false) (hA : ∀ q, inE E q → s.heap.size ≤ q) : ∀ (f k : Nat) (μ : Mu) (H : Heap) (locs : List Loc) (ls : Array Slot), k + f = 4 → Gd (μ.1 0) 2 k 0 → μ.1 0 2 = -1 → Hok μ → lv_has ls 14 [(3, .int (nI k)), (2, .int 1), (1, .ref (E.1 231)), (0, .ref b)] → Wk E μ s H locs → W p l e room_1 s m #[Value.ref b] below meth c H locs 232 1863 (lw_Z below #[Value.ref b] s) (F0 m 160 ls []) := by
  have hx := hf.1
  have hb := hf.2.1
  intro f
  induction f with
  | zero =>
    intro k μ H locs ls hkf h h2 hO hl hw
    refine lv_iload_n hx hb dL_law_160 rfl (lv_at hl 0 rfl) ?_
    refine lv_iconst (v := 4) hx hb dL_law_161 (by decide) ?_
    refine lv_icmp_ge (tgt := 247) hx hb dL_law_162 (by decide) (fun _ => ?_) (fun c => absurd (show (4 : Int32) ≤ nI k from by rw [show k = 4 by omega]; decide) c)
    refine lv_iconst (v := 0) hx hb dL_law_247 (by decide) ?_
    refine lv_istore_n (lv' := [(3, .int 0), (2, .int 1), (1, .ref (E.1 231)), (0, .ref b)]) hx hb dL_law_248 rfl hl (by decide) rfl (fun ls hl => ?_)
    rw [show k = 4 by omega] at h
    exact law_steps hf hX hbl hbA hL hr hlocks hA 26 0 _ _ _ _ rfl ⟨h, h2, hO⟩ (lv_sub hl [0, 1, 2, 3] rfl) hw
  | succ f ih =>
    intro k μ H locs ls hkf h h2 hO hl hw
    exact law_sensor hf hX hbl hbA hL (by omega) h h2 hO hl hw (fun μ H locs ls h h2 hO hl hw => ih (k + 1) μ H locs ls (by omega) h h2 hO hl hw)
end LV
