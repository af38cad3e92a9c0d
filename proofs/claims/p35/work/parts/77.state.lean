/-! ===== a State made ===== -/
section MK2
variable {p : Program} {l : Launch} {e : Env} {R : Room} {s : State} {m : MethodId} {args : Array Value} {below : List Frame} {meth : Method} {c : Code} {H : Heap} {locs : List Loc} {cells slots : Nat} {Q : State → Prop}
variable {cc : ByteArray} {pc nL : Nat} {ls : Array Slot} {rest : List Value} {E : En} {A : Nat → Prop} {ws : va_W} {own : String}
theorem n_gets (hn : Nk E A ws s H locs) (hf : CallFix p m c cc nL s args wsL_law RX4) (hdg : decode cc pc = .ok (.getstatic 33, 3)) (kk : W p l e R s m args below meth c H locs cells slots Q (F0 m (pc + 3) ls (.ref (E.1 244) :: rest))) : W p l e R s m args below meth c H locs cells slots Q (F0 m pc ls rest) :=
  va_getsN hf.1 hf.2.1 hn.2.2.2.2.2.2.2.1 hn.2.2.1 hf.2.2.2.1 (va_Nw.use rfl hn.2.2.2.2.2.1.2.2.2.2.2.2) (fun _ h => h) hdg kk
/-- System.arraycopy of a table that nobody writes, whole, into a row of ours -/
theorem n_cpT (hn : Nk E A ws s H locs) (hf : CallFix p m c cc nL s args wsL_law RX4) (hl : ls.size = nL) (q1 : Nat) {a : Nat} {g : Nat → Int32} (ha1 : ws[q1]? = some (a, .inl (E.2.2 0, 7, .inl g))) (hR : 1 ≤ R.frames ∧ nativeFrameWords "java/lang/System" "arraycopy" 5 + 11 ≤ R.locals) (hdg : decode cc pc = .ok (.invokestatic 36, 3))
    (kk : ∀ (H : Heap) (locs : List Loc), Nk E A (ws.set q1 (a, .inl (E.2.2 0, 7, .inl (va_cpy (fun j => zl4.getD j 0) g 0 0 7)))) s H locs → W p l e R s m args below meth c H locs cells slots Q (F0 m (pc + 3) ls [])) : W p l e R s m args below meth c H locs cells slots Q (F0 m pc ls [.int 7, .int 0, .ref a, .int 0, .ref (E.1 244)]) := by
  intro T hT X
  obtain ⟨hP, hD, hS, hA, hK⟩ := hn
  obtain ⟨scr, t1, t2, t3, t4, -, t6, t7⟩ := hK.2.2.2.2
  have hc0 : H[E.1 244]? = some scr := by rw [hS.2.1 _ (Array.getElem?_eq_some_iff.mp t1).1 t7]; exact t1
  have hc1 : H[a]? = some (vp_cell (E.2.2 0) (7, .inl g)) := hP q1 _ ha1
  obtain ⟨u6, k0, hk0, cm0, hkk0⟩ := t2
  obtain ⟨-, k1, hk1, cm1, hkk1⟩ := (hK.1.2 0 (E.2.2 0, .int) rfl).1 7 (fun j => .int (g j))
  have z7 : (7 : Int32).toNatClampNeg = 7 := by decide
  have z0 : (0 : Int32).toNatClampNeg = 0 := by decide
  have i7 : (7 : Int32).toInt = 7 := by decide
  have i0 : (0 : Int32).toInt = 0 := by decide
  obtain ⟨vm', X', step⟩ := X.arraycopy hf.1 hf.2.2.2.1 (hf.2.2.2.2 _ q57) (hf.2.2.2.2 _ q58) (hf.2.2.2.2 _ q59) (hf.2.2.2.2 _ q60) (src := E.1 244) (dst := a) (cs := scr) (cd := vp_cell (E.2.2 0) (7, .inl g)) (srcPos := 0) (destPos := 0) (n := 7) (by rw [hT]; exact hc0) (by rw [hT]; exact hc1)
    u6 (fun _ h => by cases h) t3 (fun h => by cases h) hk0 hk1 hkk0 hkk1 (by simp [refKind]) (by decide) (by decide) (by decide)
    (by rw [i0, i7]; omega)
    (by rw [i0, i7]; show ¬ _ > ((arrV (E.2.2 0) 7 (fun j => .int (g j))).slots.size : Int); rw [arrV_size]; omega)
    (fun vm₁ _ i hi => by
      have ei : scr.slots.getD ((0 : Int32).toNatClampNeg + i) .null = .int (zl4.getD i 0) := by
        rw [z7] at hi
        rw [z0, Nat.zero_add, Array.getD_eq_getD_getElem?, t6 i hi]
        rfl
      refine ⟨?_, ?_⟩
      · rw [ei]; rfl
      · rw [ei]; exact trivial)
    (g := F0 m pc ls [.int 7, .int 0, .ref a, .int 0, .ref (E.1 244)]) rfl (hl.trans hf.2.2.1.symm) (rest := []) rfl (by rw [hf.2.1]; exact hdg) hR.1 (by show 2 * 0 + 0 + _ ≤ _; omega)
  have e1 : copied scr (vp_cell (E.2.2 0) (7, .inl g)) 0 0 7 = vp_cell (E.2.2 0) (7, .inl (va_cpy (fun j => zl4.getD j 0) g 0 0 7)) := va_copiedX (fun z => .int z) scr (E.2.2 0) (n0 := 7) (fun j => zl4.getD j 0) g t6 (by decide)
  rw [e1] at X' step
  have hlt : a < H.size := (Array.getElem?_eq_some_iff.mp hc1).1
  generalize va_cpy (fun j => zl4.getD j 0) g 0 0 7 = gg at X' step kk
  have hheap : ((T.setVm vm').setCell a (vp_cell (E.2.2 0) (7, .inl gg))).heap = H.setIfInBounds a (vp_cell (E.2.2 0) (7, .inl gg)) := by rw [← hT]; rfl
  have oq : ∀ q : Nat, q ≠ a → (H.setIfInBounds a (vp_cell (E.2.2 0) (7, .inl gg)))[q]? = H[q]? := fun q hq => by simp [Array.getElem?_setIfInBounds, Ne.symm hq]
  obtain ⟨t, a1, b1⟩ := kk _ _ ⟨hP.set hD ha1 (show (H.setIfInBounds a _)[a]? = some _ by simp [Array.getElem?_setIfInBounds, hlt]) oq, hD.set ha1, ⟨by simp; exact hS.1, fun q g1 g2 => by
      rw [oq q (fun e => g2 (by rw [e]; exact hD.2 q1 _ ha1))]
      exact hS.2.1 q g1 g2, fun q hq => by
      rcases List.mem_append.mp hq with h | h
      · exact hS.2.2 q h
      · obtain ⟨z, -, hz⟩ := List.mem_map.mp h
        rw [← hz]
        exact hD.2 q1 _ ha1⟩, hA, hK⟩ _ hheap X'
  exact ⟨t, step t a1, b1⟩
end MK2
theorem up3 (a b c : Nat) : va_up (va_up (va_up (fun _ => none) 0 (some a)) 1 (some b)) 2 (some c) = fun y => if y < 3 then some ([a, b, c].getD y 0) else none := by
  funext y
  match y with
  | 0 => rfl
  | 1 => rfl
  | 2 => rfl
  | y + 3 => rfl
theorem up4 (a b c d : Nat) : va_up (va_up (va_up (va_up (fun _ => none) 0 (some a)) 1 (some b)) 2 (some c)) 3 (some d) = fun y => if y < 4 then some ([a, b, c, d].getD y 0) else none := by
  funext y
  match y with
  | 0 => rfl
  | 1 => rfl
  | 2 => rfl
  | 3 => rfl
  | y + 4 => rfl
theorem up6 (a b c d f g : Nat) : va_up (va_up (va_up (va_up (va_up (va_up (fun _ => none) 0 (some a)) 1 (some b)) 2 (some c)) 3 (some d)) 4 (some f)) 5 (some g) = fun y => if y < 6 then some ([a, b, c, d, f, g].getD y 0) else none := by
  funext y
  match y with
  | 0 => rfl
  | 1 => rfl
  | 2 => rfl
  | 3 => rfl
  | 4 => rfl
  | 5 => rfl
  | y + 6 => rfl
theorem cp7 : va_cpy (fun j => zl4.getD j 0) (fun _ => 0) 0 0 7 = fun y => zl4.getD y 0 := by
  funext y
  match y with
  | 0 => rfl
  | 1 => rfl
  | 2 => rfl
  | 3 => rfl
  | 4 => rfl
  | 5 => rfl
  | 6 => rfl
  | y + 7 => rfl
def Wst (E : En) (e : Nat → Nat) : va_W := [(e 0, .inr (4, [.int 0, .int 0, .int (-1), .ref (e 1), .ref (e 2), .ref (e 3)])), (e 1, .inl (E.2.2 2, 3, .inr (.inr (.inr (.inr (fun y => if y < 3 then some ([e 4, e 7, e 10].getD y 0) else none)))))), (e 2, .inl (E.2.2 3, 6, .inr (.inr (.inr (.inr (fun y => if y < 6 then some ([e 13, e 17, e 21, e 25, e 29, e 33].getD y 0) else none)))))), (e 3, .inl (E.2.2 0, 7, .inl (fun y => zl4.getD y 0)))] ++ Wtab E (e 4, e 5, e 6) ++ Wtab E (e 7, e 8, e 9) ++ Wtab E (e 10, e 11, e 12) ++ Wsen E (e 13, e 14, e 15, e 16) ++ Wsen E (e 17, e 18, e 19, e 20) ++ Wsen E (e 21, e 22, e 23, e 24) ++ Wsen E (e 25, e 26, e 27, e 28) ++ Wsen E (e 29, e 30, e 31, e 32) ++ Wsen E (e 33, e 34, e 35, e 36)
set_option maxHeartbeats 4000000 in
set_option maxRecDepth 100000 in
theorem k_X4_init (l : Launch) (E : En) (h0 sz : Nat) : MtN l yX4_init cX4_init 2 ({ frames := 2, cells := 36, slots := 283, locals := 200 }) E h0 sz 4 [.int 0, .int 0, .int 0, .null, .null, .null] (fun u : Nat → Nat => u 0) (Wst E) 36 283 := by
  refine mtN_of (by decide) rfl (by decide) ?_
  intro p e s m args below meth c ls A hf hr hlocks hin hl hn
  refine lv_aload_n hf.1 hf.2.1 dX4_init_0 rfl (lv_at hl 0 rfl) ?_
  refine n_obj hf hl.1 q46 ⟨by decide, by decide⟩ dX4_init_1 ?_
  refine lv_aload_n hf.1 hf.2.1 dX4_init_4 rfl (lv_at hl 0 rfl) ?_
  refine lv_iconst (v := -1) hf.1 hf.2.1 dX4_init_5 (by decide) ?_
  refine n_putV hn hf 0 rfl rfl inlX4 tyX4_ok nmX4 2 (by decide) rfl q47 rfl rfl rfl (Nat.le_of_ble_eq_true rfl) dX4_init_6 (fun H locs hn => ?_)
  have hn : Nk E A ([(h0, .inr (4, [.int 0, .int 0, .int (-1), .null, .null, .null]))]) s H locs := hn
  refine lv_aload_n hf.1 hf.2.1 dX4_init_9 rfl (lv_at hl 0 rfl) ?_
  refine lv_iconst (v := 3) hf.1 hf.2.1 dX4_init_10 (by decide) ?_
  refine n_refs hn hf (t0 := 2) (N := 3) (C := "OhmBridge$Table") rfl q48 (fun h => h.1) ⟨rfl, by decide⟩ ⟨by decide, by decide⟩ dX4_init_11 (fun a1 H hn => ?_)
  refine W.widen (k := 1) (n := 3) (by decide) (by decide) ?_
  refine n_putF hn hf hin 0 rfl rfl inlX4 tyX4_ok nmX4 3 (by decide) rfl rfl q49 rfl rfl rfl (Nat.le_of_ble_eq_true rfl) dX4_init_14 (fun H locs hn => ?_)
  have hn : Nk E A (([(h0, .inr (4, [.int 0, .int 0, .int (-1), .ref a1, .null, .null]))]) ++ [(a1, .inl (E.2.2 2, 3, .inr (.inr (.inr (.inr (fun _ => none))))))]) s H locs := hn
  refine lv_aload_n hf.1 hf.2.1 dX4_init_17 rfl (lv_at hl 0 rfl) ?_
  refine lv_bipush (v := 6) hf.1 hf.2.1 dX4_init_18 (by decide) ?_
  refine n_refs hn hf (t0 := 3) (N := 6) (C := "OhmBridge$Sensor") rfl q50 (fun h => h.2.1) ⟨rfl, by decide⟩ ⟨by decide, by decide⟩ dX4_init_20 (fun a2 H hn => ?_)
  refine W.widen (k := 2) (n := 9) (by decide) (by decide) ?_
  refine n_putF hn hf hin 0 rfl rfl inlX4 tyX4_ok nmX4 4 (by decide) rfl rfl q51 rfl rfl rfl (Nat.le_of_ble_eq_true rfl) dX4_init_23 (fun H locs hn => ?_)
  have hn : Nk E A ((([(h0, .inr (4, [.int 0, .int 0, .int (-1), .ref a1, .ref a2, .null]))]) ++ [(a1, .inl (E.2.2 2, 3, .inr (.inr (.inr (.inr (fun _ => none))))))]) ++ [(a2, .inl (E.2.2 3, 6, .inr (.inr (.inr (.inr (fun _ => none))))))]) s H locs := hn
  refine lv_aload_n hf.1 hf.2.1 dX4_init_26 rfl (lv_at hl 0 rfl) ?_
  refine lv_bipush (v := 7) hf.1 hf.2.1 dX4_init_27 (by decide) ?_
  refine n_ints hn hf (N := 7) ⟨rfl, by decide⟩ ⟨by decide, by decide⟩ dX4_init_29 (fun a3 H hn => ?_)
  refine W.widen (k := 3) (n := 16) (by decide) (by decide) ?_
  refine n_putF hn hf hin 0 rfl rfl inlX4 tyX4_ok nmX4 5 (by decide) rfl rfl q52 rfl rfl rfl (Nat.le_of_ble_eq_true rfl) dX4_init_31 (fun H locs hn => ?_)
  have hn : Nk E A (((([(h0, .inr (4, [.int 0, .int 0, .int (-1), .ref a1, .ref a2, .ref a3]))]) ++ [(a1, .inl (E.2.2 2, 3, .inr (.inr (.inr (.inr (fun _ => none))))))]) ++ [(a2, .inl (E.2.2 3, 6, .inr (.inr (.inr (.inr (fun _ => none))))))]) ++ [(a3, .inl (E.2.2 0, 7, .inl (fun _ => 0)))]) s H locs := hn
  refine lv_iconst (v := 0) hf.1 hf.2.1 dX4_init_34 (by decide) ?_
  refine lv_istore_n (lv' := [(1, .int 0), (0, .ref h0)]) hf.1 hf.2.1 dX4_init_35 rfl hl (by decide) rfl (fun ls hl => ?_)
  refine lv_iload_n hf.1 hf.2.1 dX4_init_36 rfl (lv_at hl 0 rfl) ?_
  refine lv_iconst (v := 3) hf.1 hf.2.1 dX4_init_37 (by decide) ?_
  refine lv_icmp_ge (tgt := 60) hf.1 hf.2.1 dX4_init_38 (by decide) (fun cc1 => ?_) (fun cc1 => ?_)
  · exact absurd cc1 (by decide)
  refine lv_aload_n hf.1 hf.2.1 dX4_init_41 rfl (lv_at hl 1 rfl) ?_
  refine n_get hn hf 0 rfl rfl inlX4 3 (by decide) rfl q49 rfl dX4_init_42 ?_
  refine lv_iload_n hf.1 hf.2.1 dX4_init_45 rfl (lv_at hl 0 rfl) ?_
  refine n_new hn hf (ci := 5) (C := RX5) (T := TX5) (N := 3) rfl inlX5 tyX5_ok q48 q53 q54 [.int 0, .null, .null] (fun j hj => by rcases (show j = 0 ∨ j = 1 ∨ j = 2 by omega) with rfl | rfl | rfl <;> rfl) ⟨by decide, by decide⟩ dX4_init_46 (fun a4 H hn => ?_)
  refine W.widen (k := 4) (n := 19) (by decide) (by decide) ?_
  refine lv_dup hf.1 hf.2.1 dX4_init_49 rfl ?_
  refine n_callN (index := 31) hn hf (k_X5_init l E a4 H.size) (fun h => h.1) q61 q62 q54 rfl (by decide +kernel) ⟨rfl, rfl⟩ ⟨by decide, by decide⟩ hl.1 (Nat.le_of_ble_eq_true rfl) dX4_init_50 ⟨by decide, by decide⟩ (fun t0 H2 locs2 hu hn2 => ?_)
  subst hu
  refine W.widen (k := 6) (n := 43) (by decide) (by decide) ?_
  have hn : Nk E A ((((([(h0, .inr (4, [.int 0, .int 0, .int (-1), .ref a1, .ref a2, .ref a3]))]) ++ [(a1, .inl (E.2.2 2, 3, .inr (.inr (.inr (.inr (fun _ => none))))))]) ++ [(a2, .inl (E.2.2 3, 6, .inr (.inr (.inr (.inr (fun _ => none))))))]) ++ [(a3, .inl (E.2.2 0, 7, .inl (fun _ => 0)))]) ++ Wtab E t0) s H2 locs2 := hn2
  refine n_astq hn hf 1 4 (t0 := 2) (ci := 5) (r := (RX5, TX5, 3)) (k := 0) rfl rfl rfl rfl rfl (by decide) (by decide) dX4_init_53 (fun H locs hn => ?_)
  have hn : Nk E A ((((([(h0, .inr (4, [.int 0, .int 0, .int (-1), .ref a1, .ref a2, .ref a3]))]) ++ [(a1, .inl (E.2.2 2, 3, .inr (.inr (.inr (.inr (va_up (fun _ => none) 0 (some t0.1)))))))]) ++ [(a2, .inl (E.2.2 3, 6, .inr (.inr (.inr (.inr (fun _ => none))))))]) ++ [(a3, .inl (E.2.2 0, 7, .inl (fun _ => 0)))]) ++ Wtab E t0) s H locs := hn
  refine lv_iinc (v := 1) (k := 0) (lv' := [(1, .int 1), (0, .ref h0)]) hf.1 hf.2.1 dX4_init_54 hl rfl (by decide) (by decide) rfl (fun ls hl => ?_)
  refine lv_goto (tgt := 36) hf.1 hf.2.1 dX4_init_57 (by decide) ?_
  refine lv_iload_n hf.1 hf.2.1 dX4_init_36 rfl (lv_at hl 0 rfl) ?_
  refine lv_iconst (v := 3) hf.1 hf.2.1 dX4_init_37 (by decide) ?_
  refine lv_icmp_ge (tgt := 60) hf.1 hf.2.1 dX4_init_38 (by decide) (fun cc1 => ?_) (fun cc1 => ?_)
  · exact absurd cc1 (by decide)
  refine lv_aload_n hf.1 hf.2.1 dX4_init_41 rfl (lv_at hl 1 rfl) ?_
  refine n_get hn hf 0 rfl rfl inlX4 3 (by decide) rfl q49 rfl dX4_init_42 ?_
  refine lv_iload_n hf.1 hf.2.1 dX4_init_45 rfl (lv_at hl 0 rfl) ?_
  refine n_new hn hf (ci := 5) (C := RX5) (T := TX5) (N := 3) rfl inlX5 tyX5_ok q48 q53 q54 [.int 0, .null, .null] (fun j hj => by rcases (show j = 0 ∨ j = 1 ∨ j = 2 by omega) with rfl | rfl | rfl <;> rfl) ⟨by decide, by decide⟩ dX4_init_46 (fun a5 H hn => ?_)
  refine W.widen (k := 7) (n := 46) (by decide) (by decide) ?_
  refine lv_dup hf.1 hf.2.1 dX4_init_49 rfl ?_
  refine n_callN (index := 31) hn hf (k_X5_init l E a5 H.size) (fun h => h.1) q61 q62 q54 rfl (by decide +kernel) ⟨rfl, rfl⟩ ⟨by decide, by decide⟩ hl.1 (Nat.le_of_ble_eq_true rfl) dX4_init_50 ⟨by decide, by decide⟩ (fun t1 H2 locs2 hu hn2 => ?_)
  subst hu
  refine W.widen (k := 9) (n := 70) (by decide) (by decide) ?_
  have hn : Nk E A (((((([(h0, .inr (4, [.int 0, .int 0, .int (-1), .ref a1, .ref a2, .ref a3]))]) ++ [(a1, .inl (E.2.2 2, 3, .inr (.inr (.inr (.inr (va_up (fun _ => none) 0 (some t0.1)))))))]) ++ [(a2, .inl (E.2.2 3, 6, .inr (.inr (.inr (.inr (fun _ => none))))))]) ++ [(a3, .inl (E.2.2 0, 7, .inl (fun _ => 0)))]) ++ Wtab E t0) ++ Wtab E t1) s H2 locs2 := hn2
  refine n_astq hn hf 1 7 (t0 := 2) (ci := 5) (r := (RX5, TX5, 3)) (k := 1) rfl rfl rfl rfl rfl (by decide) (by decide) dX4_init_53 (fun H locs hn => ?_)
  have hn : Nk E A (((((([(h0, .inr (4, [.int 0, .int 0, .int (-1), .ref a1, .ref a2, .ref a3]))]) ++ [(a1, .inl (E.2.2 2, 3, .inr (.inr (.inr (.inr (va_up (va_up (fun _ => none) 0 (some t0.1)) 1 (some t1.1)))))))]) ++ [(a2, .inl (E.2.2 3, 6, .inr (.inr (.inr (.inr (fun _ => none))))))]) ++ [(a3, .inl (E.2.2 0, 7, .inl (fun _ => 0)))]) ++ Wtab E t0) ++ Wtab E t1) s H locs := hn
  refine lv_iinc (v := 2) (k := 0) (lv' := [(1, .int 2), (0, .ref h0)]) hf.1 hf.2.1 dX4_init_54 hl rfl (by decide) (by decide) rfl (fun ls hl => ?_)
  refine lv_goto (tgt := 36) hf.1 hf.2.1 dX4_init_57 (by decide) ?_
  refine lv_iload_n hf.1 hf.2.1 dX4_init_36 rfl (lv_at hl 0 rfl) ?_
  refine lv_iconst (v := 3) hf.1 hf.2.1 dX4_init_37 (by decide) ?_
  refine lv_icmp_ge (tgt := 60) hf.1 hf.2.1 dX4_init_38 (by decide) (fun cc1 => ?_) (fun cc1 => ?_)
  · exact absurd cc1 (by decide)
  refine lv_aload_n hf.1 hf.2.1 dX4_init_41 rfl (lv_at hl 1 rfl) ?_
  refine n_get hn hf 0 rfl rfl inlX4 3 (by decide) rfl q49 rfl dX4_init_42 ?_
  refine lv_iload_n hf.1 hf.2.1 dX4_init_45 rfl (lv_at hl 0 rfl) ?_
  refine n_new hn hf (ci := 5) (C := RX5) (T := TX5) (N := 3) rfl inlX5 tyX5_ok q48 q53 q54 [.int 0, .null, .null] (fun j hj => by rcases (show j = 0 ∨ j = 1 ∨ j = 2 by omega) with rfl | rfl | rfl <;> rfl) ⟨by decide, by decide⟩ dX4_init_46 (fun a6 H hn => ?_)
  refine W.widen (k := 10) (n := 73) (by decide) (by decide) ?_
  refine lv_dup hf.1 hf.2.1 dX4_init_49 rfl ?_
  refine n_callN (index := 31) hn hf (k_X5_init l E a6 H.size) (fun h => h.1) q61 q62 q54 rfl (by decide +kernel) ⟨rfl, rfl⟩ ⟨by decide, by decide⟩ hl.1 (Nat.le_of_ble_eq_true rfl) dX4_init_50 ⟨by decide, by decide⟩ (fun t2 H2 locs2 hu hn2 => ?_)
  subst hu
  refine W.widen (k := 12) (n := 97) (by decide) (by decide) ?_
  have hn : Nk E A ((((((([(h0, .inr (4, [.int 0, .int 0, .int (-1), .ref a1, .ref a2, .ref a3]))]) ++ [(a1, .inl (E.2.2 2, 3, .inr (.inr (.inr (.inr (va_up (va_up (fun _ => none) 0 (some t0.1)) 1 (some t1.1)))))))]) ++ [(a2, .inl (E.2.2 3, 6, .inr (.inr (.inr (.inr (fun _ => none))))))]) ++ [(a3, .inl (E.2.2 0, 7, .inl (fun _ => 0)))]) ++ Wtab E t0) ++ Wtab E t1) ++ Wtab E t2) s H2 locs2 := hn2
  refine n_astq hn hf 1 10 (t0 := 2) (ci := 5) (r := (RX5, TX5, 3)) (k := 2) rfl rfl rfl rfl rfl (by decide) (by decide) dX4_init_53 (fun H locs hn => ?_)
  have hn : Nk E A ((((((([(h0, .inr (4, [.int 0, .int 0, .int (-1), .ref a1, .ref a2, .ref a3]))]) ++ [(a1, .inl (E.2.2 2, 3, .inr (.inr (.inr (.inr (va_up (va_up (va_up (fun _ => none) 0 (some t0.1)) 1 (some t1.1)) 2 (some t2.1)))))))]) ++ [(a2, .inl (E.2.2 3, 6, .inr (.inr (.inr (.inr (fun _ => none))))))]) ++ [(a3, .inl (E.2.2 0, 7, .inl (fun _ => 0)))]) ++ Wtab E t0) ++ Wtab E t1) ++ Wtab E t2) s H locs := hn
  refine lv_iinc (v := 3) (k := 0) (lv' := [(1, .int 3), (0, .ref h0)]) hf.1 hf.2.1 dX4_init_54 hl rfl (by decide) (by decide) rfl (fun ls hl => ?_)
  refine lv_goto (tgt := 36) hf.1 hf.2.1 dX4_init_57 (by decide) ?_
  refine lv_iload_n hf.1 hf.2.1 dX4_init_36 rfl (lv_at hl 0 rfl) ?_
  refine lv_iconst (v := 3) hf.1 hf.2.1 dX4_init_37 (by decide) ?_
  refine lv_icmp_ge (tgt := 60) hf.1 hf.2.1 dX4_init_38 (by decide) (fun cc1 => ?_) (fun cc1 => ?_)
  rotate_left
  · exact absurd (by decide) cc1
  rw [up3] at hn
  have hn : Nk E A ((((((([(h0, .inr (4, [.int 0, .int 0, .int (-1), .ref a1, .ref a2, .ref a3]))]) ++ [(a1, .inl (E.2.2 2, 3, .inr (.inr (.inr (.inr (fun y => if y < 3 then some ([t0.1, t1.1, t2.1].getD y 0) else none))))))]) ++ [(a2, .inl (E.2.2 3, 6, .inr (.inr (.inr (.inr (fun _ => none))))))]) ++ [(a3, .inl (E.2.2 0, 7, .inl (fun _ => 0)))]) ++ Wtab E t0) ++ Wtab E t1) ++ Wtab E t2) s H locs := hn
  refine lv_iconst (v := 0) hf.1 hf.2.1 dX4_init_60 (by decide) ?_
  refine lv_istore_n (lv' := [(1, .int 0), (0, .ref h0)]) hf.1 hf.2.1 dX4_init_61 rfl hl (by decide) rfl (fun ls hl => ?_)
  refine lv_iload_n hf.1 hf.2.1 dX4_init_62 rfl (lv_at hl 0 rfl) ?_
  refine lv_bipush (v := 6) hf.1 hf.2.1 dX4_init_63 (by decide) ?_
  refine lv_icmp_ge (tgt := 87) hf.1 hf.2.1 dX4_init_65 (by decide) (fun cc1 => ?_) (fun cc1 => ?_)
  · exact absurd cc1 (by decide)
  refine lv_aload_n hf.1 hf.2.1 dX4_init_68 rfl (lv_at hl 1 rfl) ?_
  refine n_get hn hf 0 rfl rfl inlX4 4 (by decide) rfl q51 rfl dX4_init_69 ?_
  refine lv_iload_n hf.1 hf.2.1 dX4_init_72 rfl (lv_at hl 0 rfl) ?_
  refine n_new hn hf (ci := 3) (C := RX3) (T := TX3) (N := 15) rfl inlX3 tyX3_ok q50 q55 q56 [.int 0, .int 0, .int 0, .int 0, .int 0, .int 0, .int 0, .int 0, .int 0, .int 0, .int 0, .int 0, .null, .null, .null] (fun j hj => by rcases (show j = 0 ∨ j = 1 ∨ j = 2 ∨ j = 3 ∨ j = 4 ∨ j = 5 ∨ j = 6 ∨ j = 7 ∨ j = 8 ∨ j = 9 ∨ j = 10 ∨ j = 11 ∨ j = 12 ∨ j = 13 ∨ j = 14 by omega) with rfl | rfl | rfl | rfl | rfl | rfl | rfl | rfl | rfl | rfl | rfl | rfl | rfl | rfl | rfl <;> rfl) ⟨by decide, by decide⟩ dX4_init_73 (fun a7 H hn => ?_)
  refine W.widen (k := 13) (n := 112) (by decide) (by decide) ?_
  refine lv_dup hf.1 hf.2.1 dX4_init_76 rfl ?_
  refine n_callN (index := 32) hn hf (k_X3_init l E a7 H.size) (fun h => h.2.1) q66 q67 q56 rfl (by decide +kernel) ⟨rfl, rfl⟩ ⟨by decide, by decide⟩ hl.1 (Nat.le_of_ble_eq_true rfl) dX4_init_77 ⟨by decide, by decide⟩ (fun s0 H2 locs2 hu hn2 => ?_)
  subst hu
  refine W.widen (k := 16) (n := 128) (by decide) (by decide) ?_
  have hn : Nk E A (((((((([(h0, .inr (4, [.int 0, .int 0, .int (-1), .ref a1, .ref a2, .ref a3]))]) ++ [(a1, .inl (E.2.2 2, 3, .inr (.inr (.inr (.inr (fun y => if y < 3 then some ([t0.1, t1.1, t2.1].getD y 0) else none))))))]) ++ [(a2, .inl (E.2.2 3, 6, .inr (.inr (.inr (.inr (fun _ => none))))))]) ++ [(a3, .inl (E.2.2 0, 7, .inl (fun _ => 0)))]) ++ Wtab E t0) ++ Wtab E t1) ++ Wtab E t2) ++ Wsen E s0) s H2 locs2 := hn2
  refine n_astq hn hf 2 13 (t0 := 3) (ci := 3) (r := (RX3, TX3, 15)) (k := 0) rfl rfl rfl rfl rfl (by decide) (by decide) dX4_init_80 (fun H locs hn => ?_)
  have hn : Nk E A (((((((([(h0, .inr (4, [.int 0, .int 0, .int (-1), .ref a1, .ref a2, .ref a3]))]) ++ [(a1, .inl (E.2.2 2, 3, .inr (.inr (.inr (.inr (fun y => if y < 3 then some ([t0.1, t1.1, t2.1].getD y 0) else none))))))]) ++ [(a2, .inl (E.2.2 3, 6, .inr (.inr (.inr (.inr (va_up (fun _ => none) 0 (some s0.1)))))))]) ++ [(a3, .inl (E.2.2 0, 7, .inl (fun _ => 0)))]) ++ Wtab E t0) ++ Wtab E t1) ++ Wtab E t2) ++ Wsen E s0) s H locs := hn
  refine lv_iinc (v := 1) (k := 0) (lv' := [(1, .int 1), (0, .ref h0)]) hf.1 hf.2.1 dX4_init_81 hl rfl (by decide) (by decide) rfl (fun ls hl => ?_)
  refine lv_goto (tgt := 62) hf.1 hf.2.1 dX4_init_84 (by decide) ?_
  refine lv_iload_n hf.1 hf.2.1 dX4_init_62 rfl (lv_at hl 0 rfl) ?_
  refine lv_bipush (v := 6) hf.1 hf.2.1 dX4_init_63 (by decide) ?_
  refine lv_icmp_ge (tgt := 87) hf.1 hf.2.1 dX4_init_65 (by decide) (fun cc1 => ?_) (fun cc1 => ?_)
  · exact absurd cc1 (by decide)
  refine lv_aload_n hf.1 hf.2.1 dX4_init_68 rfl (lv_at hl 1 rfl) ?_
  refine n_get hn hf 0 rfl rfl inlX4 4 (by decide) rfl q51 rfl dX4_init_69 ?_
  refine lv_iload_n hf.1 hf.2.1 dX4_init_72 rfl (lv_at hl 0 rfl) ?_
  refine n_new hn hf (ci := 3) (C := RX3) (T := TX3) (N := 15) rfl inlX3 tyX3_ok q50 q55 q56 [.int 0, .int 0, .int 0, .int 0, .int 0, .int 0, .int 0, .int 0, .int 0, .int 0, .int 0, .int 0, .null, .null, .null] (fun j hj => by rcases (show j = 0 ∨ j = 1 ∨ j = 2 ∨ j = 3 ∨ j = 4 ∨ j = 5 ∨ j = 6 ∨ j = 7 ∨ j = 8 ∨ j = 9 ∨ j = 10 ∨ j = 11 ∨ j = 12 ∨ j = 13 ∨ j = 14 by omega) with rfl | rfl | rfl | rfl | rfl | rfl | rfl | rfl | rfl | rfl | rfl | rfl | rfl | rfl | rfl <;> rfl) ⟨by decide, by decide⟩ dX4_init_73 (fun a8 H hn => ?_)
  refine W.widen (k := 17) (n := 143) (by decide) (by decide) ?_
  refine lv_dup hf.1 hf.2.1 dX4_init_76 rfl ?_
  refine n_callN (index := 32) hn hf (k_X3_init l E a8 H.size) (fun h => h.2.1) q66 q67 q56 rfl (by decide +kernel) ⟨rfl, rfl⟩ ⟨by decide, by decide⟩ hl.1 (Nat.le_of_ble_eq_true rfl) dX4_init_77 ⟨by decide, by decide⟩ (fun s1 H2 locs2 hu hn2 => ?_)
  subst hu
  refine W.widen (k := 20) (n := 159) (by decide) (by decide) ?_
  have hn : Nk E A ((((((((([(h0, .inr (4, [.int 0, .int 0, .int (-1), .ref a1, .ref a2, .ref a3]))]) ++ [(a1, .inl (E.2.2 2, 3, .inr (.inr (.inr (.inr (fun y => if y < 3 then some ([t0.1, t1.1, t2.1].getD y 0) else none))))))]) ++ [(a2, .inl (E.2.2 3, 6, .inr (.inr (.inr (.inr (va_up (fun _ => none) 0 (some s0.1)))))))]) ++ [(a3, .inl (E.2.2 0, 7, .inl (fun _ => 0)))]) ++ Wtab E t0) ++ Wtab E t1) ++ Wtab E t2) ++ Wsen E s0) ++ Wsen E s1) s H2 locs2 := hn2
  refine n_astq hn hf 2 17 (t0 := 3) (ci := 3) (r := (RX3, TX3, 15)) (k := 1) rfl rfl rfl rfl rfl (by decide) (by decide) dX4_init_80 (fun H locs hn => ?_)
  have hn : Nk E A ((((((((([(h0, .inr (4, [.int 0, .int 0, .int (-1), .ref a1, .ref a2, .ref a3]))]) ++ [(a1, .inl (E.2.2 2, 3, .inr (.inr (.inr (.inr (fun y => if y < 3 then some ([t0.1, t1.1, t2.1].getD y 0) else none))))))]) ++ [(a2, .inl (E.2.2 3, 6, .inr (.inr (.inr (.inr (va_up (va_up (fun _ => none) 0 (some s0.1)) 1 (some s1.1)))))))]) ++ [(a3, .inl (E.2.2 0, 7, .inl (fun _ => 0)))]) ++ Wtab E t0) ++ Wtab E t1) ++ Wtab E t2) ++ Wsen E s0) ++ Wsen E s1) s H locs := hn
  refine lv_iinc (v := 2) (k := 0) (lv' := [(1, .int 2), (0, .ref h0)]) hf.1 hf.2.1 dX4_init_81 hl rfl (by decide) (by decide) rfl (fun ls hl => ?_)
  refine lv_goto (tgt := 62) hf.1 hf.2.1 dX4_init_84 (by decide) ?_
  refine lv_iload_n hf.1 hf.2.1 dX4_init_62 rfl (lv_at hl 0 rfl) ?_
  refine lv_bipush (v := 6) hf.1 hf.2.1 dX4_init_63 (by decide) ?_
  refine lv_icmp_ge (tgt := 87) hf.1 hf.2.1 dX4_init_65 (by decide) (fun cc1 => ?_) (fun cc1 => ?_)
  · exact absurd cc1 (by decide)
  refine lv_aload_n hf.1 hf.2.1 dX4_init_68 rfl (lv_at hl 1 rfl) ?_
  refine n_get hn hf 0 rfl rfl inlX4 4 (by decide) rfl q51 rfl dX4_init_69 ?_
  refine lv_iload_n hf.1 hf.2.1 dX4_init_72 rfl (lv_at hl 0 rfl) ?_
  refine n_new hn hf (ci := 3) (C := RX3) (T := TX3) (N := 15) rfl inlX3 tyX3_ok q50 q55 q56 [.int 0, .int 0, .int 0, .int 0, .int 0, .int 0, .int 0, .int 0, .int 0, .int 0, .int 0, .int 0, .null, .null, .null] (fun j hj => by rcases (show j = 0 ∨ j = 1 ∨ j = 2 ∨ j = 3 ∨ j = 4 ∨ j = 5 ∨ j = 6 ∨ j = 7 ∨ j = 8 ∨ j = 9 ∨ j = 10 ∨ j = 11 ∨ j = 12 ∨ j = 13 ∨ j = 14 by omega) with rfl | rfl | rfl | rfl | rfl | rfl | rfl | rfl | rfl | rfl | rfl | rfl | rfl | rfl | rfl <;> rfl) ⟨by decide, by decide⟩ dX4_init_73 (fun a9 H hn => ?_)
  refine W.widen (k := 21) (n := 174) (by decide) (by decide) ?_
  refine lv_dup hf.1 hf.2.1 dX4_init_76 rfl ?_
  refine n_callN (index := 32) hn hf (k_X3_init l E a9 H.size) (fun h => h.2.1) q66 q67 q56 rfl (by decide +kernel) ⟨rfl, rfl⟩ ⟨by decide, by decide⟩ hl.1 (Nat.le_of_ble_eq_true rfl) dX4_init_77 ⟨by decide, by decide⟩ (fun s2 H2 locs2 hu hn2 => ?_)
  subst hu
  refine W.widen (k := 24) (n := 190) (by decide) (by decide) ?_
  have hn : Nk E A (((((((((([(h0, .inr (4, [.int 0, .int 0, .int (-1), .ref a1, .ref a2, .ref a3]))]) ++ [(a1, .inl (E.2.2 2, 3, .inr (.inr (.inr (.inr (fun y => if y < 3 then some ([t0.1, t1.1, t2.1].getD y 0) else none))))))]) ++ [(a2, .inl (E.2.2 3, 6, .inr (.inr (.inr (.inr (va_up (va_up (fun _ => none) 0 (some s0.1)) 1 (some s1.1)))))))]) ++ [(a3, .inl (E.2.2 0, 7, .inl (fun _ => 0)))]) ++ Wtab E t0) ++ Wtab E t1) ++ Wtab E t2) ++ Wsen E s0) ++ Wsen E s1) ++ Wsen E s2) s H2 locs2 := hn2
  refine n_astq hn hf 2 21 (t0 := 3) (ci := 3) (r := (RX3, TX3, 15)) (k := 2) rfl rfl rfl rfl rfl (by decide) (by decide) dX4_init_80 (fun H locs hn => ?_)
  have hn : Nk E A (((((((((([(h0, .inr (4, [.int 0, .int 0, .int (-1), .ref a1, .ref a2, .ref a3]))]) ++ [(a1, .inl (E.2.2 2, 3, .inr (.inr (.inr (.inr (fun y => if y < 3 then some ([t0.1, t1.1, t2.1].getD y 0) else none))))))]) ++ [(a2, .inl (E.2.2 3, 6, .inr (.inr (.inr (.inr (va_up (va_up (va_up (fun _ => none) 0 (some s0.1)) 1 (some s1.1)) 2 (some s2.1)))))))]) ++ [(a3, .inl (E.2.2 0, 7, .inl (fun _ => 0)))]) ++ Wtab E t0) ++ Wtab E t1) ++ Wtab E t2) ++ Wsen E s0) ++ Wsen E s1) ++ Wsen E s2) s H locs := hn
  refine lv_iinc (v := 3) (k := 0) (lv' := [(1, .int 3), (0, .ref h0)]) hf.1 hf.2.1 dX4_init_81 hl rfl (by decide) (by decide) rfl (fun ls hl => ?_)
  refine lv_goto (tgt := 62) hf.1 hf.2.1 dX4_init_84 (by decide) ?_
  refine lv_iload_n hf.1 hf.2.1 dX4_init_62 rfl (lv_at hl 0 rfl) ?_
  refine lv_bipush (v := 6) hf.1 hf.2.1 dX4_init_63 (by decide) ?_
  refine lv_icmp_ge (tgt := 87) hf.1 hf.2.1 dX4_init_65 (by decide) (fun cc1 => ?_) (fun cc1 => ?_)
  · exact absurd cc1 (by decide)
  refine lv_aload_n hf.1 hf.2.1 dX4_init_68 rfl (lv_at hl 1 rfl) ?_
  refine n_get hn hf 0 rfl rfl inlX4 4 (by decide) rfl q51 rfl dX4_init_69 ?_
  refine lv_iload_n hf.1 hf.2.1 dX4_init_72 rfl (lv_at hl 0 rfl) ?_
  refine n_new hn hf (ci := 3) (C := RX3) (T := TX3) (N := 15) rfl inlX3 tyX3_ok q50 q55 q56 [.int 0, .int 0, .int 0, .int 0, .int 0, .int 0, .int 0, .int 0, .int 0, .int 0, .int 0, .int 0, .null, .null, .null] (fun j hj => by rcases (show j = 0 ∨ j = 1 ∨ j = 2 ∨ j = 3 ∨ j = 4 ∨ j = 5 ∨ j = 6 ∨ j = 7 ∨ j = 8 ∨ j = 9 ∨ j = 10 ∨ j = 11 ∨ j = 12 ∨ j = 13 ∨ j = 14 by omega) with rfl | rfl | rfl | rfl | rfl | rfl | rfl | rfl | rfl | rfl | rfl | rfl | rfl | rfl | rfl <;> rfl) ⟨by decide, by decide⟩ dX4_init_73 (fun a10 H hn => ?_)
  refine W.widen (k := 25) (n := 205) (by decide) (by decide) ?_
  refine lv_dup hf.1 hf.2.1 dX4_init_76 rfl ?_
  refine n_callN (index := 32) hn hf (k_X3_init l E a10 H.size) (fun h => h.2.1) q66 q67 q56 rfl (by decide +kernel) ⟨rfl, rfl⟩ ⟨by decide, by decide⟩ hl.1 (Nat.le_of_ble_eq_true rfl) dX4_init_77 ⟨by decide, by decide⟩ (fun s3 H2 locs2 hu hn2 => ?_)
  subst hu
  refine W.widen (k := 28) (n := 221) (by decide) (by decide) ?_
  have hn : Nk E A ((((((((((([(h0, .inr (4, [.int 0, .int 0, .int (-1), .ref a1, .ref a2, .ref a3]))]) ++ [(a1, .inl (E.2.2 2, 3, .inr (.inr (.inr (.inr (fun y => if y < 3 then some ([t0.1, t1.1, t2.1].getD y 0) else none))))))]) ++ [(a2, .inl (E.2.2 3, 6, .inr (.inr (.inr (.inr (va_up (va_up (va_up (fun _ => none) 0 (some s0.1)) 1 (some s1.1)) 2 (some s2.1)))))))]) ++ [(a3, .inl (E.2.2 0, 7, .inl (fun _ => 0)))]) ++ Wtab E t0) ++ Wtab E t1) ++ Wtab E t2) ++ Wsen E s0) ++ Wsen E s1) ++ Wsen E s2) ++ Wsen E s3) s H2 locs2 := hn2
  refine n_astq hn hf 2 25 (t0 := 3) (ci := 3) (r := (RX3, TX3, 15)) (k := 3) rfl rfl rfl rfl rfl (by decide) (by decide) dX4_init_80 (fun H locs hn => ?_)
  have hn : Nk E A ((((((((((([(h0, .inr (4, [.int 0, .int 0, .int (-1), .ref a1, .ref a2, .ref a3]))]) ++ [(a1, .inl (E.2.2 2, 3, .inr (.inr (.inr (.inr (fun y => if y < 3 then some ([t0.1, t1.1, t2.1].getD y 0) else none))))))]) ++ [(a2, .inl (E.2.2 3, 6, .inr (.inr (.inr (.inr (va_up (va_up (va_up (va_up (fun _ => none) 0 (some s0.1)) 1 (some s1.1)) 2 (some s2.1)) 3 (some s3.1)))))))]) ++ [(a3, .inl (E.2.2 0, 7, .inl (fun _ => 0)))]) ++ Wtab E t0) ++ Wtab E t1) ++ Wtab E t2) ++ Wsen E s0) ++ Wsen E s1) ++ Wsen E s2) ++ Wsen E s3) s H locs := hn
  refine lv_iinc (v := 4) (k := 0) (lv' := [(1, .int 4), (0, .ref h0)]) hf.1 hf.2.1 dX4_init_81 hl rfl (by decide) (by decide) rfl (fun ls hl => ?_)
  refine lv_goto (tgt := 62) hf.1 hf.2.1 dX4_init_84 (by decide) ?_
  refine lv_iload_n hf.1 hf.2.1 dX4_init_62 rfl (lv_at hl 0 rfl) ?_
  refine lv_bipush (v := 6) hf.1 hf.2.1 dX4_init_63 (by decide) ?_
  refine lv_icmp_ge (tgt := 87) hf.1 hf.2.1 dX4_init_65 (by decide) (fun cc1 => ?_) (fun cc1 => ?_)
  · exact absurd cc1 (by decide)
  refine lv_aload_n hf.1 hf.2.1 dX4_init_68 rfl (lv_at hl 1 rfl) ?_
  refine n_get hn hf 0 rfl rfl inlX4 4 (by decide) rfl q51 rfl dX4_init_69 ?_
  refine lv_iload_n hf.1 hf.2.1 dX4_init_72 rfl (lv_at hl 0 rfl) ?_
  refine n_new hn hf (ci := 3) (C := RX3) (T := TX3) (N := 15) rfl inlX3 tyX3_ok q50 q55 q56 [.int 0, .int 0, .int 0, .int 0, .int 0, .int 0, .int 0, .int 0, .int 0, .int 0, .int 0, .int 0, .null, .null, .null] (fun j hj => by rcases (show j = 0 ∨ j = 1 ∨ j = 2 ∨ j = 3 ∨ j = 4 ∨ j = 5 ∨ j = 6 ∨ j = 7 ∨ j = 8 ∨ j = 9 ∨ j = 10 ∨ j = 11 ∨ j = 12 ∨ j = 13 ∨ j = 14 by omega) with rfl | rfl | rfl | rfl | rfl | rfl | rfl | rfl | rfl | rfl | rfl | rfl | rfl | rfl | rfl <;> rfl) ⟨by decide, by decide⟩ dX4_init_73 (fun a11 H hn => ?_)
  refine W.widen (k := 29) (n := 236) (by decide) (by decide) ?_
  refine lv_dup hf.1 hf.2.1 dX4_init_76 rfl ?_
  refine n_callN (index := 32) hn hf (k_X3_init l E a11 H.size) (fun h => h.2.1) q66 q67 q56 rfl (by decide +kernel) ⟨rfl, rfl⟩ ⟨by decide, by decide⟩ hl.1 (Nat.le_of_ble_eq_true rfl) dX4_init_77 ⟨by decide, by decide⟩ (fun s4 H2 locs2 hu hn2 => ?_)
  subst hu
  refine W.widen (k := 32) (n := 252) (by decide) (by decide) ?_
  have hn : Nk E A (((((((((((([(h0, .inr (4, [.int 0, .int 0, .int (-1), .ref a1, .ref a2, .ref a3]))]) ++ [(a1, .inl (E.2.2 2, 3, .inr (.inr (.inr (.inr (fun y => if y < 3 then some ([t0.1, t1.1, t2.1].getD y 0) else none))))))]) ++ [(a2, .inl (E.2.2 3, 6, .inr (.inr (.inr (.inr (va_up (va_up (va_up (va_up (fun _ => none) 0 (some s0.1)) 1 (some s1.1)) 2 (some s2.1)) 3 (some s3.1)))))))]) ++ [(a3, .inl (E.2.2 0, 7, .inl (fun _ => 0)))]) ++ Wtab E t0) ++ Wtab E t1) ++ Wtab E t2) ++ Wsen E s0) ++ Wsen E s1) ++ Wsen E s2) ++ Wsen E s3) ++ Wsen E s4) s H2 locs2 := hn2
  refine n_astq hn hf 2 29 (t0 := 3) (ci := 3) (r := (RX3, TX3, 15)) (k := 4) rfl rfl rfl rfl rfl (by decide) (by decide) dX4_init_80 (fun H locs hn => ?_)
  have hn : Nk E A (((((((((((([(h0, .inr (4, [.int 0, .int 0, .int (-1), .ref a1, .ref a2, .ref a3]))]) ++ [(a1, .inl (E.2.2 2, 3, .inr (.inr (.inr (.inr (fun y => if y < 3 then some ([t0.1, t1.1, t2.1].getD y 0) else none))))))]) ++ [(a2, .inl (E.2.2 3, 6, .inr (.inr (.inr (.inr (va_up (va_up (va_up (va_up (va_up (fun _ => none) 0 (some s0.1)) 1 (some s1.1)) 2 (some s2.1)) 3 (some s3.1)) 4 (some s4.1)))))))]) ++ [(a3, .inl (E.2.2 0, 7, .inl (fun _ => 0)))]) ++ Wtab E t0) ++ Wtab E t1) ++ Wtab E t2) ++ Wsen E s0) ++ Wsen E s1) ++ Wsen E s2) ++ Wsen E s3) ++ Wsen E s4) s H locs := hn
  refine lv_iinc (v := 5) (k := 0) (lv' := [(1, .int 5), (0, .ref h0)]) hf.1 hf.2.1 dX4_init_81 hl rfl (by decide) (by decide) rfl (fun ls hl => ?_)
  refine lv_goto (tgt := 62) hf.1 hf.2.1 dX4_init_84 (by decide) ?_
  refine lv_iload_n hf.1 hf.2.1 dX4_init_62 rfl (lv_at hl 0 rfl) ?_
  refine lv_bipush (v := 6) hf.1 hf.2.1 dX4_init_63 (by decide) ?_
  refine lv_icmp_ge (tgt := 87) hf.1 hf.2.1 dX4_init_65 (by decide) (fun cc1 => ?_) (fun cc1 => ?_)
  · exact absurd cc1 (by decide)
  refine lv_aload_n hf.1 hf.2.1 dX4_init_68 rfl (lv_at hl 1 rfl) ?_
  refine n_get hn hf 0 rfl rfl inlX4 4 (by decide) rfl q51 rfl dX4_init_69 ?_
  refine lv_iload_n hf.1 hf.2.1 dX4_init_72 rfl (lv_at hl 0 rfl) ?_
  refine n_new hn hf (ci := 3) (C := RX3) (T := TX3) (N := 15) rfl inlX3 tyX3_ok q50 q55 q56 [.int 0, .int 0, .int 0, .int 0, .int 0, .int 0, .int 0, .int 0, .int 0, .int 0, .int 0, .int 0, .null, .null, .null] (fun j hj => by rcases (show j = 0 ∨ j = 1 ∨ j = 2 ∨ j = 3 ∨ j = 4 ∨ j = 5 ∨ j = 6 ∨ j = 7 ∨ j = 8 ∨ j = 9 ∨ j = 10 ∨ j = 11 ∨ j = 12 ∨ j = 13 ∨ j = 14 by omega) with rfl | rfl | rfl | rfl | rfl | rfl | rfl | rfl | rfl | rfl | rfl | rfl | rfl | rfl | rfl <;> rfl) ⟨by decide, by decide⟩ dX4_init_73 (fun a12 H hn => ?_)
  refine W.widen (k := 33) (n := 267) (by decide) (by decide) ?_
  refine lv_dup hf.1 hf.2.1 dX4_init_76 rfl ?_
  refine n_callN (index := 32) hn hf (k_X3_init l E a12 H.size) (fun h => h.2.1) q66 q67 q56 rfl (by decide +kernel) ⟨rfl, rfl⟩ ⟨by decide, by decide⟩ hl.1 (Nat.le_of_ble_eq_true rfl) dX4_init_77 ⟨by decide, by decide⟩ (fun s5 H2 locs2 hu hn2 => ?_)
  subst hu
  refine W.widen (k := 36) (n := 283) (by decide) (by decide) ?_
  have hn : Nk E A ((((((((((((([(h0, .inr (4, [.int 0, .int 0, .int (-1), .ref a1, .ref a2, .ref a3]))]) ++ [(a1, .inl (E.2.2 2, 3, .inr (.inr (.inr (.inr (fun y => if y < 3 then some ([t0.1, t1.1, t2.1].getD y 0) else none))))))]) ++ [(a2, .inl (E.2.2 3, 6, .inr (.inr (.inr (.inr (va_up (va_up (va_up (va_up (va_up (fun _ => none) 0 (some s0.1)) 1 (some s1.1)) 2 (some s2.1)) 3 (some s3.1)) 4 (some s4.1)))))))]) ++ [(a3, .inl (E.2.2 0, 7, .inl (fun _ => 0)))]) ++ Wtab E t0) ++ Wtab E t1) ++ Wtab E t2) ++ Wsen E s0) ++ Wsen E s1) ++ Wsen E s2) ++ Wsen E s3) ++ Wsen E s4) ++ Wsen E s5) s H2 locs2 := hn2
  refine n_astq hn hf 2 33 (t0 := 3) (ci := 3) (r := (RX3, TX3, 15)) (k := 5) rfl rfl rfl rfl rfl (by decide) (by decide) dX4_init_80 (fun H locs hn => ?_)
  have hn : Nk E A ((((((((((((([(h0, .inr (4, [.int 0, .int 0, .int (-1), .ref a1, .ref a2, .ref a3]))]) ++ [(a1, .inl (E.2.2 2, 3, .inr (.inr (.inr (.inr (fun y => if y < 3 then some ([t0.1, t1.1, t2.1].getD y 0) else none))))))]) ++ [(a2, .inl (E.2.2 3, 6, .inr (.inr (.inr (.inr (va_up (va_up (va_up (va_up (va_up (va_up (fun _ => none) 0 (some s0.1)) 1 (some s1.1)) 2 (some s2.1)) 3 (some s3.1)) 4 (some s4.1)) 5 (some s5.1)))))))]) ++ [(a3, .inl (E.2.2 0, 7, .inl (fun _ => 0)))]) ++ Wtab E t0) ++ Wtab E t1) ++ Wtab E t2) ++ Wsen E s0) ++ Wsen E s1) ++ Wsen E s2) ++ Wsen E s3) ++ Wsen E s4) ++ Wsen E s5) s H locs := hn
  refine lv_iinc (v := 6) (k := 0) (lv' := [(1, .int 6), (0, .ref h0)]) hf.1 hf.2.1 dX4_init_81 hl rfl (by decide) (by decide) rfl (fun ls hl => ?_)
  refine lv_goto (tgt := 62) hf.1 hf.2.1 dX4_init_84 (by decide) ?_
  refine lv_iload_n hf.1 hf.2.1 dX4_init_62 rfl (lv_at hl 0 rfl) ?_
  refine lv_bipush (v := 6) hf.1 hf.2.1 dX4_init_63 (by decide) ?_
  refine lv_icmp_ge (tgt := 87) hf.1 hf.2.1 dX4_init_65 (by decide) (fun cc1 => ?_) (fun cc1 => ?_)
  rotate_left
  · exact absurd (by decide) cc1
  rw [up6] at hn
  have hn : Nk E A ((((((((((((([(h0, .inr (4, [.int 0, .int 0, .int (-1), .ref a1, .ref a2, .ref a3]))]) ++ [(a1, .inl (E.2.2 2, 3, .inr (.inr (.inr (.inr (fun y => if y < 3 then some ([t0.1, t1.1, t2.1].getD y 0) else none))))))]) ++ [(a2, .inl (E.2.2 3, 6, .inr (.inr (.inr (.inr (fun y => if y < 6 then some ([s0.1, s1.1, s2.1, s3.1, s4.1, s5.1].getD y 0) else none))))))]) ++ [(a3, .inl (E.2.2 0, 7, .inl (fun _ => 0)))]) ++ Wtab E t0) ++ Wtab E t1) ++ Wtab E t2) ++ Wsen E s0) ++ Wsen E s1) ++ Wsen E s2) ++ Wsen E s3) ++ Wsen E s4) ++ Wsen E s5) s H locs := hn
  refine n_gets hn hf dX4_init_87 ?_
  refine lv_iconst (v := 0) hf.1 hf.2.1 dX4_init_90 (by decide) ?_
  refine lv_aload_n hf.1 hf.2.1 dX4_init_91 rfl (lv_at hl 1 rfl) ?_
  refine n_get hn hf 0 rfl rfl inlX4 5 (by decide) rfl q52 rfl dX4_init_92 ?_
  refine lv_iconst (v := 0) hf.1 hf.2.1 dX4_init_95 (by decide) ?_
  refine lv_bipush (v := 7) hf.1 hf.2.1 dX4_init_96 (by decide) ?_
  refine n_cpT hn hf hl.1 3 rfl ⟨by decide, Nat.le_of_ble_eq_true rfl⟩ dX4_init_98 (fun H locs hn => ?_)
  rw [cp7] at hn
  exact n_ret hn hf hr hlocks (fun r => ([h0, a1, a2, a3, t0.1, t0.2.1, t0.2.2, t1.1, t1.2.1, t1.2.2, t2.1, t2.2.1, t2.2.2, s0.1, s0.2.1, s0.2.2.1, s0.2.2.2, s1.1, s1.2.1, s1.2.2.1, s1.2.2.2, s2.1, s2.2.1, s2.2.2.1, s2.2.2.2, s3.1, s3.2.1, s3.2.2.1, s3.2.2.2, s4.1, s4.2.1, s4.2.2.1, s4.2.2.2, s5.1, s5.2.1, s5.2.2.1, s5.2.2.2] : List Nat).getD r 0) rfl rfl dX4_init_101
