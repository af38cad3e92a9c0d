/-! ===== History, OhmBridge, the reference made ===== -/
abbrev SH : Type := Nat × Nat × (Nat → Nat) × (Nat → Nat) × (Nat → Nat) × (Nat → Nat)
def Whi (E : En) (u : SH) : va_W := [(u.1, .inr (0, [.int 0, .ref u.2.1])), (u.2.1, .inl (E.2.2 4, 4, .inr (.inr (.inr (.inr (fun y => if y < 4 then some ([u.2.2.1 0, u.2.2.2.1 0, u.2.2.2.2.1 0, u.2.2.2.2.2 0].getD y 0) else none))))))] ++ Wst E u.2.2.1 ++ Wst E u.2.2.2.1 ++ Wst E u.2.2.2.2.1 ++ Wst E u.2.2.2.2.2
set_option maxHeartbeats 4000000 in
set_option maxRecDepth 100000 in
theorem k_X0_init (l : Launch) (E : En) (h0 sz : Nat) : MtN l yX0_init cX0_init 2 ({ frames := 3, cells := 149, slots := 1160, locals := 230 }) E h0 sz 0 [.int 0, .null] (fun u : SH => u.1) (Whi E) 149 1160 := by
  refine mtN_of (by decide) rfl (by decide) ?_
  intro p e s m args below meth c ls A hf hr hlocks hin hl hn
  refine lv_aload_n hf.1 hf.2.1 dX0_init_0 rfl (lv_at hl 0 rfl) ?_
  refine n_obj hf hl.1 q76 ⟨by decide, by decide⟩ dX0_init_1 ?_
  refine lv_aload_n hf.1 hf.2.1 dX0_init_4 rfl (lv_at hl 0 rfl) ?_
  refine lv_iconst (v := 4) hf.1 hf.2.1 dX0_init_5 (by decide) ?_
  refine n_refs hn hf (t0 := 4) (N := 4) (C := "OhmBridge$State") rfl q77 (fun h => h.2.2) ⟨rfl, by decide⟩ ⟨by decide, by decide⟩ dX0_init_6 (fun a1 H hn => ?_)
  refine W.widen (k := 1) (n := 4) (by decide) (by decide) ?_
  refine n_putF hn hf hin 0 rfl rfl inlX0 tyX0_ok nmX0 1 (by decide) rfl rfl q78 rfl rfl rfl (Nat.le_of_ble_eq_true rfl) dX0_init_9 (fun H locs hn => ?_)
  have hn : Nk E A (([(h0, .inr (0, [.int 0, .ref a1]))]) ++ [(a1, .inl (E.2.2 4, 4, .inr (.inr (.inr (.inr (fun _ => none))))))]) s H locs := hn
  refine lv_iconst (v := 0) hf.1 hf.2.1 dX0_init_12 (by decide) ?_
  refine lv_istore_n (lv' := [(1, .int 0), (0, .ref h0)]) hf.1 hf.2.1 dX0_init_13 rfl hl (by decide) rfl (fun ls hl => ?_)
  refine lv_iload_n hf.1 hf.2.1 dX0_init_14 rfl (lv_at hl 0 rfl) ?_
  refine lv_iconst (v := 4) hf.1 hf.2.1 dX0_init_15 (by decide) ?_
  refine lv_icmp_ge (tgt := 38) hf.1 hf.2.1 dX0_init_16 (by decide) (fun cc1 => ?_) (fun cc1 => ?_)
  · exact absurd cc1 (by decide)
  refine lv_aload_n hf.1 hf.2.1 dX0_init_19 rfl (lv_at hl 1 rfl) ?_
  refine n_get hn hf 0 rfl rfl inlX0 1 (by decide) rfl q78 rfl dX0_init_20 ?_
  refine lv_iload_n hf.1 hf.2.1 dX0_init_23 rfl (lv_at hl 0 rfl) ?_
  refine n_new hn hf (ci := 4) (C := RX4) (T := TX4) (N := 6) rfl inlX4 tyX4_ok q77 q21 q22 [.int 0, .int 0, .int 0, .null, .null, .null] (fun j hj => by rcases (show j = 0 ∨ j = 1 ∨ j = 2 ∨ j = 3 ∨ j = 4 ∨ j = 5 by omega) with rfl | rfl | rfl | rfl | rfl | rfl <;> rfl) ⟨by decide, by decide⟩ dX0_init_24 (fun a2 H hn => ?_)
  refine W.widen (k := 2) (n := 10) (by decide) (by decide) ?_
  refine lv_dup hf.1 hf.2.1 dX0_init_27 rfl ?_
  refine n_call (index := 17) hn hf (k_X4_init l E a2 H.size) q79 q44 q45 q22 rfl (by decide +kernel) ⟨rfl, rfl⟩ ⟨by decide, by decide⟩ hl.1 (Nat.le_of_ble_eq_true rfl) dX0_init_28 ⟨by decide, by decide⟩ (fun k0 H2 locs2 hu hn2 => ?_)
  subst hu
  refine W.widen (k := 38) (n := 293) (by decide) (by decide) ?_
  have hn : Nk E A ((([(h0, .inr (0, [.int 0, .ref a1]))]) ++ [(a1, .inl (E.2.2 4, 4, .inr (.inr (.inr (.inr (fun _ => none))))))]) ++ Wst E k0) s H2 locs2 := hn2
  refine n_astq hn hf 1 2 (t0 := 4) (ci := 4) (r := (RX4, TX4, 6)) (k := 0) rfl rfl rfl rfl rfl (by decide) (by decide) dX0_init_31 (fun H locs hn => ?_)
  have hn : Nk E A ((([(h0, .inr (0, [.int 0, .ref a1]))]) ++ [(a1, .inl (E.2.2 4, 4, .inr (.inr (.inr (.inr (va_up (fun _ => none) 0 (some (k0 0))))))))]) ++ Wst E k0) s H locs := hn
  refine lv_iinc (v := 1) (k := 0) (lv' := [(1, .int 1), (0, .ref h0)]) hf.1 hf.2.1 dX0_init_32 hl rfl (by decide) (by decide) rfl (fun ls hl => ?_)
  refine lv_goto (tgt := 14) hf.1 hf.2.1 dX0_init_35 (by decide) ?_
  refine lv_iload_n hf.1 hf.2.1 dX0_init_14 rfl (lv_at hl 0 rfl) ?_
  refine lv_iconst (v := 4) hf.1 hf.2.1 dX0_init_15 (by decide) ?_
  refine lv_icmp_ge (tgt := 38) hf.1 hf.2.1 dX0_init_16 (by decide) (fun cc1 => ?_) (fun cc1 => ?_)
  · exact absurd cc1 (by decide)
  refine lv_aload_n hf.1 hf.2.1 dX0_init_19 rfl (lv_at hl 1 rfl) ?_
  refine n_get hn hf 0 rfl rfl inlX0 1 (by decide) rfl q78 rfl dX0_init_20 ?_
  refine lv_iload_n hf.1 hf.2.1 dX0_init_23 rfl (lv_at hl 0 rfl) ?_
  refine n_new hn hf (ci := 4) (C := RX4) (T := TX4) (N := 6) rfl inlX4 tyX4_ok q77 q21 q22 [.int 0, .int 0, .int 0, .null, .null, .null] (fun j hj => by rcases (show j = 0 ∨ j = 1 ∨ j = 2 ∨ j = 3 ∨ j = 4 ∨ j = 5 by omega) with rfl | rfl | rfl | rfl | rfl | rfl <;> rfl) ⟨by decide, by decide⟩ dX0_init_24 (fun a3 H hn => ?_)
  refine W.widen (k := 39) (n := 299) (by decide) (by decide) ?_
  refine lv_dup hf.1 hf.2.1 dX0_init_27 rfl ?_
  refine n_call (index := 17) hn hf (k_X4_init l E a3 H.size) q79 q44 q45 q22 rfl (by decide +kernel) ⟨rfl, rfl⟩ ⟨by decide, by decide⟩ hl.1 (Nat.le_of_ble_eq_true rfl) dX0_init_28 ⟨by decide, by decide⟩ (fun k1 H2 locs2 hu hn2 => ?_)
  subst hu
  refine W.widen (k := 75) (n := 582) (by decide) (by decide) ?_
  have hn : Nk E A (((([(h0, .inr (0, [.int 0, .ref a1]))]) ++ [(a1, .inl (E.2.2 4, 4, .inr (.inr (.inr (.inr (va_up (fun _ => none) 0 (some (k0 0))))))))]) ++ Wst E k0) ++ Wst E k1) s H2 locs2 := hn2
  refine n_astq hn hf 1 39 (t0 := 4) (ci := 4) (r := (RX4, TX4, 6)) (k := 1) rfl rfl rfl rfl rfl (by decide) (by decide) dX0_init_31 (fun H locs hn => ?_)
  have hn : Nk E A (((([(h0, .inr (0, [.int 0, .ref a1]))]) ++ [(a1, .inl (E.2.2 4, 4, .inr (.inr (.inr (.inr (va_up (va_up (fun _ => none) 0 (some (k0 0))) 1 (some (k1 0))))))))]) ++ Wst E k0) ++ Wst E k1) s H locs := hn
  refine lv_iinc (v := 2) (k := 0) (lv' := [(1, .int 2), (0, .ref h0)]) hf.1 hf.2.1 dX0_init_32 hl rfl (by decide) (by decide) rfl (fun ls hl => ?_)
  refine lv_goto (tgt := 14) hf.1 hf.2.1 dX0_init_35 (by decide) ?_
  refine lv_iload_n hf.1 hf.2.1 dX0_init_14 rfl (lv_at hl 0 rfl) ?_
  refine lv_iconst (v := 4) hf.1 hf.2.1 dX0_init_15 (by decide) ?_
  refine lv_icmp_ge (tgt := 38) hf.1 hf.2.1 dX0_init_16 (by decide) (fun cc1 => ?_) (fun cc1 => ?_)
  · exact absurd cc1 (by decide)
  refine lv_aload_n hf.1 hf.2.1 dX0_init_19 rfl (lv_at hl 1 rfl) ?_
  refine n_get hn hf 0 rfl rfl inlX0 1 (by decide) rfl q78 rfl dX0_init_20 ?_
  refine lv_iload_n hf.1 hf.2.1 dX0_init_23 rfl (lv_at hl 0 rfl) ?_
  refine n_new hn hf (ci := 4) (C := RX4) (T := TX4) (N := 6) rfl inlX4 tyX4_ok q77 q21 q22 [.int 0, .int 0, .int 0, .null, .null, .null] (fun j hj => by rcases (show j = 0 ∨ j = 1 ∨ j = 2 ∨ j = 3 ∨ j = 4 ∨ j = 5 by omega) with rfl | rfl | rfl | rfl | rfl | rfl <;> rfl) ⟨by decide, by decide⟩ dX0_init_24 (fun a4 H hn => ?_)
  refine W.widen (k := 76) (n := 588) (by decide) (by decide) ?_
  refine lv_dup hf.1 hf.2.1 dX0_init_27 rfl ?_
  refine n_call (index := 17) hn hf (k_X4_init l E a4 H.size) q79 q44 q45 q22 rfl (by decide +kernel) ⟨rfl, rfl⟩ ⟨by decide, by decide⟩ hl.1 (Nat.le_of_ble_eq_true rfl) dX0_init_28 ⟨by decide, by decide⟩ (fun k2 H2 locs2 hu hn2 => ?_)
  subst hu
  refine W.widen (k := 112) (n := 871) (by decide) (by decide) ?_
  have hn : Nk E A ((((([(h0, .inr (0, [.int 0, .ref a1]))]) ++ [(a1, .inl (E.2.2 4, 4, .inr (.inr (.inr (.inr (va_up (va_up (fun _ => none) 0 (some (k0 0))) 1 (some (k1 0))))))))]) ++ Wst E k0) ++ Wst E k1) ++ Wst E k2) s H2 locs2 := hn2
  refine n_astq hn hf 1 76 (t0 := 4) (ci := 4) (r := (RX4, TX4, 6)) (k := 2) rfl rfl rfl rfl rfl (by decide) (by decide) dX0_init_31 (fun H locs hn => ?_)
  have hn : Nk E A ((((([(h0, .inr (0, [.int 0, .ref a1]))]) ++ [(a1, .inl (E.2.2 4, 4, .inr (.inr (.inr (.inr (va_up (va_up (va_up (fun _ => none) 0 (some (k0 0))) 1 (some (k1 0))) 2 (some (k2 0))))))))]) ++ Wst E k0) ++ Wst E k1) ++ Wst E k2) s H locs := hn
  refine lv_iinc (v := 3) (k := 0) (lv' := [(1, .int 3), (0, .ref h0)]) hf.1 hf.2.1 dX0_init_32 hl rfl (by decide) (by decide) rfl (fun ls hl => ?_)
  refine lv_goto (tgt := 14) hf.1 hf.2.1 dX0_init_35 (by decide) ?_
  refine lv_iload_n hf.1 hf.2.1 dX0_init_14 rfl (lv_at hl 0 rfl) ?_
  refine lv_iconst (v := 4) hf.1 hf.2.1 dX0_init_15 (by decide) ?_
  refine lv_icmp_ge (tgt := 38) hf.1 hf.2.1 dX0_init_16 (by decide) (fun cc1 => ?_) (fun cc1 => ?_)
  · exact absurd cc1 (by decide)
  refine lv_aload_n hf.1 hf.2.1 dX0_init_19 rfl (lv_at hl 1 rfl) ?_
  refine n_get hn hf 0 rfl rfl inlX0 1 (by decide) rfl q78 rfl dX0_init_20 ?_
  refine lv_iload_n hf.1 hf.2.1 dX0_init_23 rfl (lv_at hl 0 rfl) ?_
  refine n_new hn hf (ci := 4) (C := RX4) (T := TX4) (N := 6) rfl inlX4 tyX4_ok q77 q21 q22 [.int 0, .int 0, .int 0, .null, .null, .null] (fun j hj => by rcases (show j = 0 ∨ j = 1 ∨ j = 2 ∨ j = 3 ∨ j = 4 ∨ j = 5 by omega) with rfl | rfl | rfl | rfl | rfl | rfl <;> rfl) ⟨by decide, by decide⟩ dX0_init_24 (fun a5 H hn => ?_)
  refine W.widen (k := 113) (n := 877) (by decide) (by decide) ?_
  refine lv_dup hf.1 hf.2.1 dX0_init_27 rfl ?_
  refine n_call (index := 17) hn hf (k_X4_init l E a5 H.size) q79 q44 q45 q22 rfl (by decide +kernel) ⟨rfl, rfl⟩ ⟨by decide, by decide⟩ hl.1 (Nat.le_of_ble_eq_true rfl) dX0_init_28 ⟨by decide, by decide⟩ (fun k3 H2 locs2 hu hn2 => ?_)
  subst hu
  refine W.widen (k := 149) (n := 1160) (by decide) (by decide) ?_
  have hn : Nk E A (((((([(h0, .inr (0, [.int 0, .ref a1]))]) ++ [(a1, .inl (E.2.2 4, 4, .inr (.inr (.inr (.inr (va_up (va_up (va_up (fun _ => none) 0 (some (k0 0))) 1 (some (k1 0))) 2 (some (k2 0))))))))]) ++ Wst E k0) ++ Wst E k1) ++ Wst E k2) ++ Wst E k3) s H2 locs2 := hn2
  refine n_astq hn hf 1 113 (t0 := 4) (ci := 4) (r := (RX4, TX4, 6)) (k := 3) rfl rfl rfl rfl rfl (by decide) (by decide) dX0_init_31 (fun H locs hn => ?_)
  have hn : Nk E A (((((([(h0, .inr (0, [.int 0, .ref a1]))]) ++ [(a1, .inl (E.2.2 4, 4, .inr (.inr (.inr (.inr (va_up (va_up (va_up (va_up (fun _ => none) 0 (some (k0 0))) 1 (some (k1 0))) 2 (some (k2 0))) 3 (some (k3 0))))))))]) ++ Wst E k0) ++ Wst E k1) ++ Wst E k2) ++ Wst E k3) s H locs := hn
  refine lv_iinc (v := 4) (k := 0) (lv' := [(1, .int 4), (0, .ref h0)]) hf.1 hf.2.1 dX0_init_32 hl rfl (by decide) (by decide) rfl (fun ls hl => ?_)
  refine lv_goto (tgt := 14) hf.1 hf.2.1 dX0_init_35 (by decide) ?_
  refine lv_iload_n hf.1 hf.2.1 dX0_init_14 rfl (lv_at hl 0 rfl) ?_
  refine lv_iconst (v := 4) hf.1 hf.2.1 dX0_init_15 (by decide) ?_
  refine lv_icmp_ge (tgt := 38) hf.1 hf.2.1 dX0_init_16 (by decide) (fun cc1 => ?_) (fun cc1 => ?_)
  rotate_left
  · exact absurd (by decide) cc1
  rw [up4] at hn
  have hn : Nk E A (((((([(h0, .inr (0, [.int 0, .ref a1]))]) ++ [(a1, .inl (E.2.2 4, 4, .inr (.inr (.inr (.inr (fun y => if y < 4 then some ([k0 0, k1 0, k2 0, k3 0].getD y 0) else none))))))]) ++ Wst E k0) ++ Wst E k1) ++ Wst E k2) ++ Wst E k3) s H locs := hn
  exact n_ret hn hf hr hlocks (h0, a1, k0, k1, k2, k3) rfl rfl dX0_init_38
abbrev SO : Type := Nat × (Nat → Nat) × (Nat → Nat) × SH × (Nat × Nat × Nat) × Nat × (Nat × Nat) × Nat
def Wob (E : En) (u : SO) : va_W := [(u.1, .inr (7, [.ref (u.2.1 0), .ref (u.2.2.1 0), .ref u.2.2.2.1.1, .ref u.2.2.2.2.1.1, .ref u.2.2.2.2.2.1, .ref u.2.2.2.2.2.2.1.1, .ref u.2.2.2.2.2.2.2, .int 0, .int 0, .int 0]))] ++ Wst E u.2.1 ++ Wst E u.2.2.1 ++ Whi E u.2.2.2.1 ++ Wmet u.2.2.2.2.1 ++ Wmea u.2.2.2.2.2.1 ++ Wtxt E u.2.2.2.2.2.2.1 ++ [(u.2.2.2.2.2.2.2, .inl (E.2.2 0, 9, .inl (fun _ => 0)))]
set_option maxHeartbeats 4000000 in
set_option maxRecDepth 100000 in
theorem k_X7_init (l : Launch) (E : En) (h0 sz : Nat) : MtN l yX7_init cX7_init 1 ({ frames := 4, cells := 231, slots := 1853, locals := 260 }) E h0 sz 7 [.null, .null, .null, .null, .null, .null, .null, .int 0, .int 0, .int 0] (fun u : SO => u.1) (Wob E) 231 1853 := by
  refine mtN_of (by decide) rfl (by decide) ?_
  intro p e s m args below meth c ls A hf hr hlocks hin hl hn
  refine lv_aload_n hf.1 hf.2.1 dX7_init_0 rfl (lv_at hl 0 rfl) ?_
  refine n_obj hf hl.1 q17 ⟨by decide, by decide⟩ dX7_init_1 ?_
  refine lv_aload_n hf.1 hf.2.1 dX7_init_4 rfl (lv_at hl 0 rfl) ?_
  refine n_new hn hf (ci := 4) (C := RX4) (T := TX4) (N := 6) rfl inlX4 tyX4_ok q20 q21 q22 [.int 0, .int 0, .int 0, .null, .null, .null] (fun j hj => by rcases (show j = 0 ∨ j = 1 ∨ j = 2 ∨ j = 3 ∨ j = 4 ∨ j = 5 by omega) with rfl | rfl | rfl | rfl | rfl | rfl <;> rfl) ⟨by decide, by decide⟩ dX7_init_5 (fun a1 H hn => ?_)
  refine W.widen (k := 1) (n := 6) (by decide) (by decide) ?_
  refine lv_dup hf.1 hf.2.1 dX7_init_8 rfl ?_
  refine n_call (index := 9) hn hf (k_X4_init l E a1 H.size) q43 q44 q45 q22 rfl (by decide +kernel) ⟨rfl, rfl⟩ ⟨by decide, by decide⟩ hl.1 (Nat.le_of_ble_eq_true rfl) dX7_init_9 ⟨by decide, by decide⟩ (fun n0 H2 locs2 hu hn2 => ?_)
  subst hu
  refine W.widen (k := 37) (n := 289) (by decide) (by decide) ?_
  have hn : Nk E A (([(h0, .inr (7, [.null, .null, .null, .null, .null, .null, .null, .int 0, .int 0, .int 0]))]) ++ Wst E n0) s H2 locs2 := hn2
  refine n_putF hn hf hin 0 rfl rfl inlX7 tyX7_ok nmX7 0 (by decide) rfl rfl q23 rfl rfl rfl (Nat.le_of_ble_eq_true rfl) dX7_init_12 (fun H locs hn => ?_)
  have hn : Nk E A (([(h0, .inr (7, [.ref (n0 0), .null, .null, .null, .null, .null, .null, .int 0, .int 0, .int 0]))]) ++ Wst E n0) s H locs := hn
  refine lv_aload_n hf.1 hf.2.1 dX7_init_15 rfl (lv_at hl 0 rfl) ?_
  refine n_new hn hf (ci := 4) (C := RX4) (T := TX4) (N := 6) rfl inlX4 tyX4_ok q20 q21 q22 [.int 0, .int 0, .int 0, .null, .null, .null] (fun j hj => by rcases (show j = 0 ∨ j = 1 ∨ j = 2 ∨ j = 3 ∨ j = 4 ∨ j = 5 by omega) with rfl | rfl | rfl | rfl | rfl | rfl <;> rfl) ⟨by decide, by decide⟩ dX7_init_16 (fun a2 H hn => ?_)
  refine W.widen (k := 38) (n := 295) (by decide) (by decide) ?_
  refine lv_dup hf.1 hf.2.1 dX7_init_19 rfl ?_
  refine n_call (index := 9) hn hf (k_X4_init l E a2 H.size) q43 q44 q45 q22 rfl (by decide +kernel) ⟨rfl, rfl⟩ ⟨by decide, by decide⟩ hl.1 (Nat.le_of_ble_eq_true rfl) dX7_init_20 ⟨by decide, by decide⟩ (fun n1 H2 locs2 hu hn2 => ?_)
  subst hu
  refine W.widen (k := 74) (n := 578) (by decide) (by decide) ?_
  have hn : Nk E A ((([(h0, .inr (7, [.ref (n0 0), .null, .null, .null, .null, .null, .null, .int 0, .int 0, .int 0]))]) ++ Wst E n0) ++ Wst E n1) s H2 locs2 := hn2
  refine n_putF hn hf hin 0 rfl rfl inlX7 tyX7_ok nmX7 1 (by decide) rfl rfl q24 rfl rfl rfl (Nat.le_of_ble_eq_true rfl) dX7_init_23 (fun H locs hn => ?_)
  have hn : Nk E A ((([(h0, .inr (7, [.ref (n0 0), .ref (n1 0), .null, .null, .null, .null, .null, .int 0, .int 0, .int 0]))]) ++ Wst E n0) ++ Wst E n1) s H locs := hn
  refine lv_aload_n hf.1 hf.2.1 dX7_init_26 rfl (lv_at hl 0 rfl) ?_
  refine n_new hn hf (ci := 0) (C := RX0) (T := TX0) (N := 2) rfl inlX0 tyX0_ok q25 q26 q27 [.int 0, .null] (fun j hj => by rcases (show j = 0 ∨ j = 1 by omega) with rfl | rfl <;> rfl) ⟨by decide, by decide⟩ dX7_init_27 (fun a3 H hn => ?_)
  refine W.widen (k := 75) (n := 580) (by decide) (by decide) ?_
  refine lv_dup hf.1 hf.2.1 dX7_init_30 rfl ?_
  refine n_call (index := 21) hn hf (k_X0_init l E a3 H.size) q73 q74 q75 q27 rfl (by decide +kernel) ⟨rfl, rfl⟩ ⟨by decide, by decide⟩ hl.1 (Nat.le_of_ble_eq_true rfl) dX7_init_31 ⟨by decide, by decide⟩ (fun n2 H2 locs2 hu hn2 => ?_)
  subst hu
  refine W.widen (k := 224) (n := 1740) (by decide) (by decide) ?_
  have hn : Nk E A (((([(h0, .inr (7, [.ref (n0 0), .ref (n1 0), .null, .null, .null, .null, .null, .int 0, .int 0, .int 0]))]) ++ Wst E n0) ++ Wst E n1) ++ Whi E n2) s H2 locs2 := hn2
  refine n_putF hn hf hin 0 rfl rfl inlX7 tyX7_ok nmX7 2 (by decide) rfl rfl q28 rfl rfl rfl (Nat.le_of_ble_eq_true rfl) dX7_init_34 (fun H locs hn => ?_)
  have hn : Nk E A (((([(h0, .inr (7, [.ref (n0 0), .ref (n1 0), .ref n2.1, .null, .null, .null, .null, .int 0, .int 0, .int 0]))]) ++ Wst E n0) ++ Wst E n1) ++ Whi E n2) s H locs := hn
  refine lv_aload_n hf.1 hf.2.1 dX7_init_37 rfl (lv_at hl 0 rfl) ?_
  refine n_new hn hf (ci := 2) (C := RX2) (T := TX2) (N := 5) rfl inlX2 tyX2_ok q29 q30 q31 [.null, .null, .long 0, .int 0, .int 0] (fun j hj => by rcases (show j = 0 ∨ j = 1 ∨ j = 2 ∨ j = 3 ∨ j = 4 by omega) with rfl | rfl | rfl | rfl | rfl <;> rfl) ⟨by decide, by decide⟩ dX7_init_38 (fun a4 H hn => ?_)
  refine W.widen (k := 225) (n := 1745) (by decide) (by decide) ?_
  refine lv_dup hf.1 hf.2.1 dX7_init_41 rfl ?_
  refine n_callN (index := 28) hn hf (k_X2_init l E a4 H.size) (fun h => h.2.2.1) q80 q81 q31 rfl (by decide +kernel) ⟨rfl, rfl⟩ ⟨by decide, by decide⟩ hl.1 (Nat.le_of_ble_eq_true rfl) dX7_init_42 ⟨by decide, by decide⟩ (fun n3 H2 locs2 hu hn2 => ?_)
  subst hu
  refine W.widen (k := 227) (n := 1767) (by decide) (by decide) ?_
  have hn : Nk E A ((((([(h0, .inr (7, [.ref (n0 0), .ref (n1 0), .ref n2.1, .null, .null, .null, .null, .int 0, .int 0, .int 0]))]) ++ Wst E n0) ++ Wst E n1) ++ Whi E n2) ++ Wmet n3) s H2 locs2 := hn2
  refine n_putF hn hf hin 0 rfl rfl inlX7 tyX7_ok nmX7 3 (by decide) rfl rfl q32 rfl rfl rfl (Nat.le_of_ble_eq_true rfl) dX7_init_45 (fun H locs hn => ?_)
  have hn : Nk E A ((((([(h0, .inr (7, [.ref (n0 0), .ref (n1 0), .ref n2.1, .ref n3.1, .null, .null, .null, .int 0, .int 0, .int 0]))]) ++ Wst E n0) ++ Wst E n1) ++ Whi E n2) ++ Wmet n3) s H locs := hn
  refine lv_aload_n hf.1 hf.2.1 dX7_init_48 rfl (lv_at hl 0 rfl) ?_
  refine n_new hn hf (ci := 1) (C := RX1) (T := TX1) (N := 11) rfl inlX1 tyX1_ok q33 q34 q35 [.long 0, .long 0, .long 0, .long 0, .long 0, .long 0, .long 0, .long 0, .long 0, .long 0, .long 0] (fun j hj => by rcases (show j = 0 ∨ j = 1 ∨ j = 2 ∨ j = 3 ∨ j = 4 ∨ j = 5 ∨ j = 6 ∨ j = 7 ∨ j = 8 ∨ j = 9 ∨ j = 10 by omega) with rfl | rfl | rfl | rfl | rfl | rfl | rfl | rfl | rfl | rfl | rfl <;> rfl) ⟨by decide, by decide⟩ dX7_init_49 (fun a5 H hn => ?_)
  refine W.widen (k := 228) (n := 1778) (by decide) (by decide) ?_
  refine lv_dup hf.1 hf.2.1 dX7_init_52 rfl ?_
  refine n_callN (index := 35) hn hf (k_X1_init l E a5 H.size) (fun h => h.2.2.2.2.1) q86 q87 q35 rfl (by decide +kernel) ⟨rfl, rfl⟩ ⟨by decide, by decide⟩ hl.1 (Nat.le_of_ble_eq_true rfl) dX7_init_53 ⟨by decide, by decide⟩ (fun n4 H2 locs2 hu hn2 => ?_)
  subst hu
  refine W.widen (k := 228) (n := 1778) (by decide) (by decide) ?_
  have hn : Nk E A (((((([(h0, .inr (7, [.ref (n0 0), .ref (n1 0), .ref n2.1, .ref n3.1, .null, .null, .null, .int 0, .int 0, .int 0]))]) ++ Wst E n0) ++ Wst E n1) ++ Whi E n2) ++ Wmet n3) ++ Wmea n4) s H2 locs2 := hn2
  refine n_putF hn hf hin 0 rfl rfl inlX7 tyX7_ok nmX7 4 (by decide) rfl rfl q36 rfl rfl rfl (Nat.le_of_ble_eq_true rfl) dX7_init_56 (fun H locs hn => ?_)
  have hn : Nk E A (((((([(h0, .inr (7, [.ref (n0 0), .ref (n1 0), .ref n2.1, .ref n3.1, .ref n4, .null, .null, .int 0, .int 0, .int 0]))]) ++ Wst E n0) ++ Wst E n1) ++ Whi E n2) ++ Wmet n3) ++ Wmea n4) s H locs := hn
  refine lv_aload_n hf.1 hf.2.1 dX7_init_59 rfl (lv_at hl 0 rfl) ?_
  refine n_new hn hf (ci := 6) (C := RX6) (T := TX6) (N := 6) rfl inlX6 tyX6_ok q37 q38 q39 [.int 0, .int 0, .int 0, .int 0, .int 0, .null] (fun j hj => by rcases (show j = 0 ∨ j = 1 ∨ j = 2 ∨ j = 3 ∨ j = 4 ∨ j = 5 by omega) with rfl | rfl | rfl | rfl | rfl | rfl <;> rfl) ⟨by decide, by decide⟩ dX7_init_60 (fun a6 H hn => ?_)
  refine W.widen (k := 229) (n := 1784) (by decide) (by decide) ?_
  refine lv_dup hf.1 hf.2.1 dX7_init_63 rfl ?_
  refine n_callN (index := 42) hn hf (k_X6_init l E a6 H.size) (fun h => h.2.2.2.2.2.1) q89 q90 q39 rfl (by decide +kernel) ⟨rfl, rfl⟩ ⟨by decide, by decide⟩ hl.1 (Nat.le_of_ble_eq_true rfl) dX7_init_64 ⟨by decide, by decide⟩ (fun n5 H2 locs2 hu hn2 => ?_)
  subst hu
  refine W.widen (k := 230) (n := 1844) (by decide) (by decide) ?_
  have hn : Nk E A ((((((([(h0, .inr (7, [.ref (n0 0), .ref (n1 0), .ref n2.1, .ref n3.1, .ref n4, .null, .null, .int 0, .int 0, .int 0]))]) ++ Wst E n0) ++ Wst E n1) ++ Whi E n2) ++ Wmet n3) ++ Wmea n4) ++ Wtxt E n5) s H2 locs2 := hn2
  refine n_putF hn hf hin 0 rfl rfl inlX7 tyX7_ok nmX7 5 (by decide) rfl rfl q40 rfl rfl rfl (Nat.le_of_ble_eq_true rfl) dX7_init_67 (fun H locs hn => ?_)
  have hn : Nk E A ((((((([(h0, .inr (7, [.ref (n0 0), .ref (n1 0), .ref n2.1, .ref n3.1, .ref n4, .ref n5.1, .null, .int 0, .int 0, .int 0]))]) ++ Wst E n0) ++ Wst E n1) ++ Whi E n2) ++ Wmet n3) ++ Wmea n4) ++ Wtxt E n5) s H locs := hn
  refine lv_aload_n hf.1 hf.2.1 dX7_init_70 rfl (lv_at hl 0 rfl) ?_
  refine lv_bipush (v := 9) hf.1 hf.2.1 dX7_init_71 (by decide) ?_
  refine n_ints hn hf (N := 9) ⟨rfl, by decide⟩ ⟨by decide, by decide⟩ dX7_init_73 (fun a7 H hn => ?_)
  refine W.widen (k := 231) (n := 1853) (by decide) (by decide) ?_
  refine n_putF hn hf hin 0 rfl rfl inlX7 tyX7_ok nmX7 6 (by decide) rfl rfl q42 rfl rfl rfl (Nat.le_of_ble_eq_true rfl) dX7_init_75 (fun H locs hn => ?_)
  have hn : Nk E A (((((((([(h0, .inr (7, [.ref (n0 0), .ref (n1 0), .ref n2.1, .ref n3.1, .ref n4, .ref n5.1, .ref a7, .int 0, .int 0, .int 0]))]) ++ Wst E n0) ++ Wst E n1) ++ Whi E n2) ++ Wmet n3) ++ Wmea n4) ++ Wtxt E n5) ++ [(a7, .inl (E.2.2 0, 9, .inl (fun _ => 0)))]) s H locs := hn
  exact n_ret hn hf hr hlocks (h0, n0, n1, n2, n3, n4, n5, a7) rfl rfl dX7_init_78
