/-! ===== CONSTRUCTORS ===== -/
abbrev zI : Nat → Int32 := fun _ => 0
def Wtab (E : En) (u : Nat × Nat × Nat) : va_W := [(u.1, .inr (5, [.int 0, .ref u.2.1, .ref u.2.2])), (u.2.1, .inl (E.2.2 0, 12, .inl (fun _ => 0))), (u.2.2, .inl (E.2.2 0, 12, .inl (fun _ => 0)))]
def Wsen (E : En) (u : Nat × Nat × Nat × Nat) : va_W := [(u.1, .inr (3, [.int 0, .int 0, .int 0, .int 0, .int 0, .int 0, .int (-1), .int 0, .int 0, .int 0, .int 0, .int 0, .ref u.2.1, .ref u.2.2.1, .ref u.2.2.2])), (u.2.1, .inl (E.2.2 0, 4, .inl (fun _ => 0))), (u.2.2.1, .inl (E.2.2 0, 3, .inl (fun _ => 0))), (u.2.2.2, .inl (E.2.2 0, 9, .inl (fun _ => 0)))]
def Wtxt (E : En) (u : Nat × Nat) : va_W := [(u.1, .inr (6, [.int 0, .int 0, .int 0, .int 0, .int 0, .ref u.2])), (u.2, .inl (E.2.2 1, 60, .inl (fun _ => 0)))]
def Wmea (u : Nat) : va_W := [(u, .inr (1, [.long 0, .long 0, .long 0, .long 0, .long 0, .long 0, .long 0, .long 0, .long 0, .long 0, .long 0]))]
def Wmet (u : Nat × Nat × Nat) : va_W := [(u.1, .inr (2, [.ref u.2.1, .ref u.2.2, .long 0, .int 0, .int 0])), (u.2.1, .inr (1, [.long 0, .long 0, .long 0, .long 0, .long 0, .long 0, .long 0, .long 0, .long 0, .long 0, .long 0])), (u.2.2, .inr (1, [.long 0, .long 0, .long 0, .long 0, .long 0, .long 0, .long 0, .long 0, .long 0, .long 0, .long 0]))]
set_option maxHeartbeats 4000000 in
set_option maxRecDepth 100000 in
theorem k_X5_init (l : Launch) (E : En) (h0 sz : Nat) : MtN l yX5_init cX5_init 1 ({ frames := 1, cells := 2, slots := 24, locals := 12 }) E h0 sz 5 [.int 0, .null, .null] (fun u : Nat × Nat × Nat => u.1) (Wtab E) 2 24 := by
  refine mtN_of (by decide) rfl (by decide) ?_
  intro p e s m args below meth c ls A hf hr hlocks hin hl hn
  refine lv_aload_n hf.1 hf.2.1 dX5_init_0 rfl (lv_at hl 0 rfl) ?_
  refine n_obj hf hl.1 q63 ⟨by decide, by decide⟩ dX5_init_1 ?_
  refine lv_aload_n hf.1 hf.2.1 dX5_init_4 rfl (lv_at hl 0 rfl) ?_
  refine lv_bipush (v := 12) hf.1 hf.2.1 dX5_init_5 (by decide) ?_
  refine n_ints hn hf (N := 12) ⟨rfl, by decide⟩ ⟨by decide, by decide⟩ dX5_init_7 (fun a1 H hn => ?_)
  refine W.widen (k := 1) (n := 12) (by decide) (by decide) ?_
  refine n_putF hn hf hin 0 rfl rfl inlX5 tyX5_ok nmX5 1 (by decide) rfl rfl q64 rfl rfl rfl (Nat.le_of_ble_eq_true rfl) dX5_init_9 (fun H locs hn => ?_)
  have hn : Nk E A (([(h0, .inr (5, [.int 0, .ref a1, .null]))]) ++ [(a1, .inl (E.2.2 0, 12, .inl (fun _ => 0)))]) s H locs := hn
  refine lv_aload_n hf.1 hf.2.1 dX5_init_12 rfl (lv_at hl 0 rfl) ?_
  refine lv_bipush (v := 12) hf.1 hf.2.1 dX5_init_13 (by decide) ?_
  refine n_ints hn hf (N := 12) ⟨rfl, by decide⟩ ⟨by decide, by decide⟩ dX5_init_15 (fun a2 H hn => ?_)
  refine W.widen (k := 2) (n := 24) (by decide) (by decide) ?_
  refine n_putF hn hf hin 0 rfl rfl inlX5 tyX5_ok nmX5 2 (by decide) rfl rfl q65 rfl rfl rfl (Nat.le_of_ble_eq_true rfl) dX5_init_17 (fun H locs hn => ?_)
  have hn : Nk E A ((([(h0, .inr (5, [.int 0, .ref a1, .ref a2]))]) ++ [(a1, .inl (E.2.2 0, 12, .inl (fun _ => 0)))]) ++ [(a2, .inl (E.2.2 0, 12, .inl (fun _ => 0)))]) s H locs := hn
  exact n_ret hn hf hr hlocks (h0, a1, a2) rfl rfl dX5_init_20
set_option maxHeartbeats 4000000 in
set_option maxRecDepth 100000 in
theorem k_X3_init (l : Launch) (E : En) (h0 sz : Nat) : MtN l yX3_init cX3_init 1 ({ frames := 1, cells := 3, slots := 16, locals := 12 }) E h0 sz 3 [.int 0, .int 0, .int 0, .int 0, .int 0, .int 0, .int 0, .int 0, .int 0, .int 0, .int 0, .int 0, .null, .null, .null] (fun u : Nat × Nat × Nat × Nat => u.1) (Wsen E) 3 16 := by
  refine mtN_of (by decide) rfl (by decide) ?_
  intro p e s m args below meth c ls A hf hr hlocks hin hl hn
  refine lv_aload_n hf.1 hf.2.1 dX3_init_0 rfl (lv_at hl 0 rfl) ?_
  refine n_obj hf hl.1 q68 ⟨by decide, by decide⟩ dX3_init_1 ?_
  refine lv_aload_n hf.1 hf.2.1 dX3_init_4 rfl (lv_at hl 0 rfl) ?_
  refine lv_iconst (v := -1) hf.1 hf.2.1 dX3_init_5 (by decide) ?_
  refine n_putV hn hf 0 rfl rfl inlX3 tyX3_ok nmX3 6 (by decide) rfl q69 rfl rfl rfl (Nat.le_of_ble_eq_true rfl) dX3_init_6 (fun H locs hn => ?_)
  have hn : Nk E A ([(h0, .inr (3, [.int 0, .int 0, .int 0, .int 0, .int 0, .int 0, .int (-1), .int 0, .int 0, .int 0, .int 0, .int 0, .null, .null, .null]))]) s H locs := hn
  refine lv_aload_n hf.1 hf.2.1 dX3_init_9 rfl (lv_at hl 0 rfl) ?_
  refine lv_iconst (v := 4) hf.1 hf.2.1 dX3_init_10 (by decide) ?_
  refine n_ints hn hf (N := 4) ⟨rfl, by decide⟩ ⟨by decide, by decide⟩ dX3_init_11 (fun a1 H hn => ?_)
  refine W.widen (k := 1) (n := 4) (by decide) (by decide) ?_
  refine n_putF hn hf hin 0 rfl rfl inlX3 tyX3_ok nmX3 12 (by decide) rfl rfl q70 rfl rfl rfl (Nat.le_of_ble_eq_true rfl) dX3_init_13 (fun H locs hn => ?_)
  have hn : Nk E A (([(h0, .inr (3, [.int 0, .int 0, .int 0, .int 0, .int 0, .int 0, .int (-1), .int 0, .int 0, .int 0, .int 0, .int 0, .ref a1, .null, .null]))]) ++ [(a1, .inl (E.2.2 0, 4, .inl (fun _ => 0)))]) s H locs := hn
  refine lv_aload_n hf.1 hf.2.1 dX3_init_16 rfl (lv_at hl 0 rfl) ?_
  refine lv_iconst (v := 3) hf.1 hf.2.1 dX3_init_17 (by decide) ?_
  refine n_ints hn hf (N := 3) ⟨rfl, by decide⟩ ⟨by decide, by decide⟩ dX3_init_18 (fun a2 H hn => ?_)
  refine W.widen (k := 2) (n := 7) (by decide) (by decide) ?_
  refine n_putF hn hf hin 0 rfl rfl inlX3 tyX3_ok nmX3 13 (by decide) rfl rfl q71 rfl rfl rfl (Nat.le_of_ble_eq_true rfl) dX3_init_20 (fun H locs hn => ?_)
  have hn : Nk E A ((([(h0, .inr (3, [.int 0, .int 0, .int 0, .int 0, .int 0, .int 0, .int (-1), .int 0, .int 0, .int 0, .int 0, .int 0, .ref a1, .ref a2, .null]))]) ++ [(a1, .inl (E.2.2 0, 4, .inl (fun _ => 0)))]) ++ [(a2, .inl (E.2.2 0, 3, .inl (fun _ => 0)))]) s H locs := hn
  refine lv_aload_n hf.1 hf.2.1 dX3_init_23 rfl (lv_at hl 0 rfl) ?_
  refine lv_bipush (v := 9) hf.1 hf.2.1 dX3_init_24 (by decide) ?_
  refine n_ints hn hf (N := 9) ⟨rfl, by decide⟩ ⟨by decide, by decide⟩ dX3_init_26 (fun a3 H hn => ?_)
  refine W.widen (k := 3) (n := 16) (by decide) (by decide) ?_
  refine n_putF hn hf hin 0 rfl rfl inlX3 tyX3_ok nmX3 14 (by decide) rfl rfl q72 rfl rfl rfl (Nat.le_of_ble_eq_true rfl) dX3_init_28 (fun H locs hn => ?_)
  have hn : Nk E A (((([(h0, .inr (3, [.int 0, .int 0, .int 0, .int 0, .int 0, .int 0, .int (-1), .int 0, .int 0, .int 0, .int 0, .int 0, .ref a1, .ref a2, .ref a3]))]) ++ [(a1, .inl (E.2.2 0, 4, .inl (fun _ => 0)))]) ++ [(a2, .inl (E.2.2 0, 3, .inl (fun _ => 0)))]) ++ [(a3, .inl (E.2.2 0, 9, .inl (fun _ => 0)))]) s H locs := hn
  exact n_ret hn hf hr hlocks (h0, a1, a2, a3) rfl rfl dX3_init_31
set_option maxHeartbeats 4000000 in
set_option maxRecDepth 100000 in
theorem k_X1_init (l : Launch) (E : En) (h0 sz : Nat) : MtN l yX1_init cX1_init 1 ({ frames := 1, cells := 0, slots := 0, locals := 12 }) E h0 sz 1 [.long 0, .long 0, .long 0, .long 0, .long 0, .long 0, .long 0, .long 0, .long 0, .long 0, .long 0] (fun u : Nat => u) Wmea 0 0 := by
  refine mtN_of (by decide) rfl (by decide) ?_
  intro p e s m args below meth c ls A hf hr hlocks hin hl hn
  refine lv_aload_n hf.1 hf.2.1 dX1_init_0 rfl (lv_at hl 0 rfl) ?_
  refine n_obj hf hl.1 q88 ⟨by decide, by decide⟩ dX1_init_1 ?_
  exact n_ret hn hf hr hlocks h0 rfl rfl dX1_init_4
set_option maxHeartbeats 4000000 in
set_option maxRecDepth 100000 in
theorem k_X6_init (l : Launch) (E : En) (h0 sz : Nat) : MtN l yX6_init cX6_init 1 ({ frames := 1, cells := 1, slots := 60, locals := 12 }) E h0 sz 6 [.int 0, .int 0, .int 0, .int 0, .int 0, .null] (fun u : Nat × Nat => u.1) (Wtxt E) 1 60 := by
  refine mtN_of (by decide) rfl (by decide) ?_
  intro p e s m args below meth c ls A hf hr hlocks hin hl hn
  refine lv_aload_n hf.1 hf.2.1 dX6_init_0 rfl (lv_at hl 0 rfl) ?_
  refine n_obj hf hl.1 q91 ⟨by decide, by decide⟩ dX6_init_1 ?_
  refine lv_aload_n hf.1 hf.2.1 dX6_init_4 rfl (lv_at hl 0 rfl) ?_
  refine lv_bipush (v := 60) hf.1 hf.2.1 dX6_init_5 (by decide) ?_
  refine n_chars hn hf (N := 60) ⟨rfl, by decide⟩ ⟨by decide, by decide⟩ dX6_init_7 (fun a1 H hn => ?_)
  refine W.widen (k := 1) (n := 60) (by decide) (by decide) ?_
  refine n_putF hn hf hin 0 rfl rfl inlX6 tyX6_ok nmX6 5 (by decide) rfl rfl q93 rfl rfl rfl (Nat.le_of_ble_eq_true rfl) dX6_init_9 (fun H locs hn => ?_)
  have hn : Nk E A (([(h0, .inr (6, [.int 0, .int 0, .int 0, .int 0, .int 0, .ref a1]))]) ++ [(a1, .inl (E.2.2 1, 60, .inl (fun _ => 0)))]) s H locs := hn
  exact n_ret hn hf hr hlocks (h0, a1) rfl rfl dX6_init_12
set_option maxHeartbeats 4000000 in
set_option maxRecDepth 100000 in
theorem k_X2_init (l : Launch) (E : En) (h0 sz : Nat) : MtN l yX2_init cX2_init 1 ({ frames := 2, cells := 2, slots := 22, locals := 32 }) E h0 sz 2 [.null, .null, .long 0, .int 0, .int 0] (fun u : Nat × Nat × Nat => u.1) Wmet 2 22 := by
  refine mtN_of (by decide) rfl (by decide) ?_
  intro p e s m args below meth c ls A hf hr hlocks hin hl hn
  refine lv_aload_n hf.1 hf.2.1 dX2_init_0 rfl (lv_at hl 0 rfl) ?_
  refine n_obj hf hl.1 q82 ⟨by decide, by decide⟩ dX2_init_1 ?_
  refine lv_aload_n hf.1 hf.2.1 dX2_init_4 rfl (lv_at hl 0 rfl) ?_
  refine n_new hn hf (ci := 1) (C := RX1) (T := TX1) (N := 11) rfl inlX1 tyX1_ok q83 q34 q35 [.long 0, .long 0, .long 0, .long 0, .long 0, .long 0, .long 0, .long 0, .long 0, .long 0, .long 0] (fun j hj => by rcases (show j = 0 ∨ j = 1 ∨ j = 2 ∨ j = 3 ∨ j = 4 ∨ j = 5 ∨ j = 6 ∨ j = 7 ∨ j = 8 ∨ j = 9 ∨ j = 10 by omega) with rfl | rfl | rfl | rfl | rfl | rfl | rfl | rfl | rfl | rfl | rfl <;> rfl) ⟨by decide, by decide⟩ dX2_init_5 (fun a1 H hn => ?_)
  refine W.widen (k := 1) (n := 11) (by decide) (by decide) ?_
  refine lv_dup hf.1 hf.2.1 dX2_init_8 rfl ?_
  refine n_callN (index := 11) hn hf (k_X1_init l E a1 H.size) (fun h => h.2.2.2.1) q86 q87 q35 rfl (by decide +kernel) ⟨rfl, rfl⟩ ⟨by decide, by decide⟩ hl.1 (Nat.le_of_ble_eq_true rfl) dX2_init_9 ⟨by decide, by decide⟩ (fun u1 H2 locs2 hu hn2 => ?_)
  subst hu
  refine W.widen (k := 1) (n := 11) (by decide) (by decide) ?_
  have hn : Nk E A (([(h0, .inr (2, [.null, .null, .long 0, .int 0, .int 0]))]) ++ Wmea u1) s H2 locs2 := hn2
  refine n_putF hn hf hin 0 rfl rfl inlX2 tyX2_ok nmX2 0 (by decide) rfl rfl q84 rfl rfl rfl (Nat.le_of_ble_eq_true rfl) dX2_init_12 (fun H locs hn => ?_)
  have hn : Nk E A (([(h0, .inr (2, [.ref u1, .null, .long 0, .int 0, .int 0]))]) ++ Wmea u1) s H locs := hn
  refine lv_aload_n hf.1 hf.2.1 dX2_init_15 rfl (lv_at hl 0 rfl) ?_
  refine n_new hn hf (ci := 1) (C := RX1) (T := TX1) (N := 11) rfl inlX1 tyX1_ok q83 q34 q35 [.long 0, .long 0, .long 0, .long 0, .long 0, .long 0, .long 0, .long 0, .long 0, .long 0, .long 0] (fun j hj => by rcases (show j = 0 ∨ j = 1 ∨ j = 2 ∨ j = 3 ∨ j = 4 ∨ j = 5 ∨ j = 6 ∨ j = 7 ∨ j = 8 ∨ j = 9 ∨ j = 10 by omega) with rfl | rfl | rfl | rfl | rfl | rfl | rfl | rfl | rfl | rfl | rfl <;> rfl) ⟨by decide, by decide⟩ dX2_init_16 (fun a2 H hn => ?_)
  refine W.widen (k := 2) (n := 22) (by decide) (by decide) ?_
  refine lv_dup hf.1 hf.2.1 dX2_init_19 rfl ?_
  refine n_callN (index := 11) hn hf (k_X1_init l E a2 H.size) (fun h => h.2.2.2.1) q86 q87 q35 rfl (by decide +kernel) ⟨rfl, rfl⟩ ⟨by decide, by decide⟩ hl.1 (Nat.le_of_ble_eq_true rfl) dX2_init_20 ⟨by decide, by decide⟩ (fun u2 H2 locs2 hu hn2 => ?_)
  subst hu
  refine W.widen (k := 2) (n := 22) (by decide) (by decide) ?_
  have hn : Nk E A ((([(h0, .inr (2, [.ref u1, .null, .long 0, .int 0, .int 0]))]) ++ Wmea u1) ++ Wmea u2) s H2 locs2 := hn2
  refine n_putF hn hf hin 0 rfl rfl inlX2 tyX2_ok nmX2 1 (by decide) rfl rfl q85 rfl rfl rfl (Nat.le_of_ble_eq_true rfl) dX2_init_23 (fun H locs hn => ?_)
  have hn : Nk E A ((([(h0, .inr (2, [.ref u1, .ref u2, .long 0, .int 0, .int 0]))]) ++ Wmea u1) ++ Wmea u2) s H locs := hn
  exact n_ret hn hf hr hlocks (h0, u1, u2) rfl rfl dX2_init_26
