/-! ===== THE LAW ===== -/
theorem na_0 : Na (μ0.1 0) 0 := by
  have e : μ0.1 0 = S0 := funext (fun x => m0S (by decide) x)
  rw [e]
  refine ⟨⟨rfl, rfl, rfl⟩, ⟨by decide, by decide, by decide, by decide⟩, fun t ht => absurd ht (Nat.not_lt_zero t), fun t _ ht => ?_, fun k hk => ⟨S06, S0s (by decide) (by decide), S0s (by decide) (by decide), S0s (by decide) (by decide)⟩⟩
  rw [S0t (show 10 ≤ tN t by unfold tN; omega) (show tN t < 85 by unfold tN; omega)]
  rfl
theorem hok_0 : Hok μ0 := ⟨0, by decide, rfl, fun y hy => ⟨Nat.le_add_right 2 y, show 2 + y < 6 by omega⟩⟩
set_option maxHeartbeats 8000000 in
set_option maxRecDepth 100000 in
theorem whole_start {p : Program} {e : Env} {s : State} {m : MethodId} {below : List Frame} {meth : Method} {c : Code} (l : Launch) (hflags : l.flags = flags0) {b L : Nat} {xs : Nat → Int32} (hL : L ≤ 260) (C0 : lw_At p s m meth c b L xs) : W p l e room_1 s m #[Value.ref b] below meth c s.heap [] 0 0 (lw_Z below #[Value.ref b] s) (entryFrame m ([Value.ref b] : List Value).toArray 14) := by
  obtain ⟨hx, hb, hr, hml, hown, hts, hX, hbl, hlocks, hgv⟩ := id C0
  have hf : CallFix p m c code 14 s #[Value.ref b] wsL_law RL := ⟨hx, hb, hml, hown, fun w h => hts w (wsL_tbl w h)⟩
  have hs := flat_of_before _ hgv
  obtain ⟨t0, z0, y0⟩ := tab_0 hts hs
  obtain ⟨t1, z1, y1⟩ := tab_1 hts hs
  obtain ⟨t2, z2, y2⟩ := tab_2 hts hs
  obtain ⟨t3, z3, y3⟩ := tab_3 hts hs
  obtain ⟨t4, z4, y4⟩ := tab_4 hts hs
  have hao := aos_of hts
  obtain ⟨G, dA, hK⟩ := k_of hf.2.2.2.2 hao
  have hn : Nk (fun _ => t4, G, dA) (fun q => s.heap.size ≤ q) [] s s.heap [] := ⟨fun k q h => by simp at h, ⟨fun i j p q h => by simp at h, fun k q h => by simp at h⟩, va_S.rf, fun q h => h, hK _, nws_of hts, hao, z4, y4⟩
  have hl := lv_entry ([.ref b]) (n := 14) (Nat.le_of_ble_eq_true rfl)
  rw [lg_entry_eq]
  generalize (lg_sl ([.ref b]) ++ List.replicate (14 - (lg_sl ([.ref b])).length) Slot.unset).toArray = ls at hl ⊢
  have hl : lv_has ls 14 [(0, .ref b)] := hl
  refine n_new hn hf (ci := 7) (C := RX7) (T := TX7) (N := 10) rfl inlX7 tyX7_ok q0 q1 q2 [.null, .null, .null, .null, .null, .null, .null, .int 0, .int 0, .int 0] (fun j hj => by rcases (show j = 0 ∨ j = 1 ∨ j = 2 ∨ j = 3 ∨ j = 4 ∨ j = 5 ∨ j = 6 ∨ j = 7 ∨ j = 8 ∨ j = 9 by omega) with rfl | rfl | rfl | rfl | rfl | rfl | rfl | rfl | rfl | rfl <;> rfl) ⟨Nat.le_of_ble_eq_true rfl, Nat.le_of_ble_eq_true rfl⟩ dL_law_0 (fun a1 H hn => ?_)
  refine W.widen (k := 1) (n := 10) (by decide) (by decide) ?_
  refine lv_dup hx hb dL_law_3 rfl ?_
  refine n_call (index := 69) hn hf (k_X7_init l _ a1 H.size) q14 q15 q16 q2 rfl (by decide +kernel) ⟨rfl, rfl⟩ ⟨Nat.le_of_ble_eq_true rfl, Nat.le_of_ble_eq_true rfl⟩ hl.1 (Nat.le_of_ble_eq_true rfl) dL_law_4 ⟨Nat.le_of_ble_eq_true rfl, Nat.le_of_ble_eq_true rfl⟩ (fun u H2 locs2 hu hn2 => ?_)
  subst hu
  refine W.widen (k := 232) (n := 1863) (by decide) (by decide) ?_
  refine lv_astore_n (lv' := [(1, .ref u.1), (0, .ref b)]) hx hb dL_law_7 rfl hl (by decide) rfl (fun ls hl => ?_)
  refine va_forget (fun q hq => hn2.2.2.1.2.2 q hq) ?_
  have hE : (En0 G dA (fun k => [t0, t1, t2, t3, t4].getD k 0) u).2 = ((fun _ => t4, G, dA) : En).2 := rfl
  have hP := wd_P hE (D := G) (H := H2) hn2.1
  obtain ⟨d1, d2⟩ := wd_D hE hn2.2.1
  have hw : Wk (En0 G dA (fun k => [t0, t1, t2, t3, t4].getD k 0) u) μ0 s H2 [] := ⟨hP, hK _, d1, ⟨hn2.2.2.1.1, fun q h1 _ => hn2.2.2.1.2.1 q h1 (Nat.not_le.mpr h1), fun _ h => by cases h⟩, ⟨z0.narrow d2, y0.narrow d2⟩, ⟨z1.narrow d2, y1.narrow d2⟩, ⟨z2.narrow d2, y2.narrow d2⟩, ⟨z3.narrow d2, y3.narrow d2⟩, ⟨z4.narrow d2, y4.narrow d2⟩⟩
  have hl : lv_has ls 14 [(1, .ref ((En0 G dA (fun k => [t0, t1, t2, t3, t4].getD k 0) u).1 231)), (0, .ref b)] := hl
  refine lv_aload_n hx hb dL_law_8 rfl (lv_at hl 0 rfl) ?_
  refine lv_iconst (v := 0) hx hb dL_law_9 (by decide) ?_
  refine c_i1 hw (run_S (As := [.ref ((En0 G dA (fun k => [t0, t1, t2, t3, t4].getD k 0) u).1 231), .int 0]) (rest := []) (np := 2) hf hw (k_L_holds l _ μ0 (T := 0) (N := 0) (B := 0) (y := 0) (na_gd na_0 (by decide)) (by decide)) ⟨gl_S q94 q95 q96 q97, by decide +kernel⟩ ⟨rfl, rfl, Nat.le_of_ble_eq_true rfl, Nat.le_of_ble_eq_true rfl⟩ rfl hl.1 rfl (Nat.le_of_ble_eq_true rfl) dL_law_10 ⟨Nat.le_of_ble_eq_true rfl, Nat.le_of_ble_eq_true rfl⟩) (fun μ1 H locs s1 hw => ?_)
  have sm1 := Same.rf.tr s1
  refine lv_istore_n (lv' := [(2, .int 1), (1, .ref ((En0 G dA (fun k => [t0, t1, t2, t3, t4].getD k 0) u).1 231)), (0, .ref b)]) hx hb dL_law_13 rfl hl (by decide) rfl (fun ls hl => ?_)
  refine lv_iconst (v := 0) hx hb dL_law_14 (by decide) ?_
  refine lv_istore_n (lv' := [(3, .int 0), (2, .int 1), (1, .ref ((En0 G dA (fun k => [t0, t1, t2, t3, t4].getD k 0) u).1 231)), (0, .ref b)]) hx hb dL_law_15 rfl hl (by decide) rfl (fun ls hl => ?_)
  exact law_tables hf hX hbl (fun h => Nat.not_le.mpr hbl (d2 b h)) (by omega) hr hlocks d2 2 0 _ _ _ _ rfl (by rw [sm1.g]; exact na_0) (hok_0.same sm1) (lv_sub hl [0, 1, 2, 3] rfl) hw
