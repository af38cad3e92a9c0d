/-! ===== THE LAW ===== -/
theorem and31 (x : Int32) : ∃ k : Nat, k < 32 ∧ (x &&& 31).toInt = (k : Int) := by
  have h : (x.toBitVec &&& 31#32).toNat < 32 := by
    rw [BitVec.toNat_and]
    exact Nat.lt_of_le_of_lt Nat.and_le_right (by decide)
  refine ⟨(x.toBitVec &&& 31#32).toNat, h, ?_⟩
  show (x.toBitVec &&& 31#32).toInt = _
  exact BitVec.toInt_eq_toNat_of_lt (by omega)
section LL
variable {p : Program} {l : Launch} {e : Env} {s : State} {m : MethodId} {below : List Frame} {meth : Method} {c : Code} {H : Heap} {locs : List Loc}
variable {ls : Array Slot} {E : En} {μ : Mu} {b L B : Nat} {xs : Nat → Int32} {x3 : Int32}
set_option maxHeartbeats 4000000 in
set_option maxRecDepth 100000 in
/-- the loop's head: out, or on -/
theorem law_head (hf : CallFix p m c code 4 s #[Value.ref b] wsL_law RL) (hr : meth.sig.returnType = ret) (hlocks : meth.locks = false) (hL : L ≤ 2560) (hl : lv_has ls 4 (lvL E b x3)) (hw : Wk E μ s H locs) (hX : va_X b L xs s s.heap) (hbl : b < s.heap.size) (hbA : ¬ inE E b) (hA : ∀ q, inE E q → s.heap.size ≤ q) {i : Nat} (hi : x3 = nI i) (hi2 : i < 10000)
    (kk : i + 5 ≤ L → W p l e room_1 s m #[Value.ref b] below meth c H locs 240 3758 (lw_Z below #[Value.ref b] s) (F0 m 26 ls [])) : W p l e room_1 s m #[Value.ref b] below meth c H locs 240 3758 (lw_Z below #[Value.ref b] s) (F0 m 18 ls []) := by
  refine lv_iload_n hf.1 hf.2.1 dL_law_18 rfl (lv_at hl 3 rfl) ?_
  refine lv_aload_n hf.1 hf.2.1 dL_law_19 rfl (lv_at hl 0 rfl) ?_
  refine va_slen hf.1 hf.2.1 hX hbl hbA hw.2.2.2.1 dL_law_20 ?_
  refine lv_iconst (v := 5) hf.1 hf.2.1 dL_law_21 (by decide) ?_
  refine lv_isub hf.1 hf.2.1 dL_law_22 ?_
  have e1 : (Int32.ofNat L - 5).toInt = (L : Int) - 5 := by
    rw [Int32.toInt_sub, show (Int32.ofNat L).toInt = (L : Int) from nI_toInt (by omega), show (5 : Int32).toInt = 5 by decide, I_of _ (by omega)]
  refine lv_icmp_gt (tgt := 1168) hf.1 hf.2.1 dL_law_23 (by decide) (fun cc => ?_) (fun cc => ?_)
  · refine va_forget (fun q hq => hA _ (hw.2.2.2.1.2.2 q hq)) ?_
    refine W.widen (k := 600000) (n := 7302250) (Nat.le_of_ble_eq_true rfl) (Nat.le_of_ble_eq_true rfl) ?_
    refine W.base ?_
    refine lv_iconst (v := 1) hf.1 hf.2.1 dL_law_1168 (by decide) ?_
    exact lw_ret (Drawn.sameBut.refl s.drawn lw_cs) hf.1 hf.2.1 hr hlocks dL_law_1169
  · refine kk ?_
    rw [Int32.lt_iff_toInt_lt, e1, hi, nI_toInt (by omega)] at cc
    omega
set_option maxHeartbeats 8000000 in
set_option maxRecDepth 100000 in
/-- one round of the loop -/
theorem law_step (hf : CallFix p m c code 4 s #[Value.ref b] wsL_law RL) (hl : lv_has ls 4 (lvL E b x3)) (hw : Wk E μ s H locs) (hX : va_X b L xs s s.heap) (hbl : b < s.heap.size) (hbA : ¬ inE E b) {Q : State → Prop} (hi : ∀ k, k < 5 → vp_in (x3 + nI k) L) (h : Inv B μ) (hB : B + 61 < 2 ^ 30)
    (kk : ∀ (H : Heap) (locs : List Loc) (μ : Mu), Wk E μ s H locs → Inv (B + 61) μ → W p l e room_1 s m #[Value.ref b] below meth c H locs 240 3758 Q (F0 m 1162 ls [])) : W p l e room_1 s m #[Value.ref b] below meth c H locs 240 3758 Q (F0 m 26 ls []) := by
  refine lv_aload_n hf.1 hf.2.1 dL_law_26 rfl (lv_at hl 0 rfl) ?_
  refine lv_iload_n hf.1 hf.2.1 dL_law_27 rfl (lv_at hl 3 rfl) ?_
  have h0 : vp_in x3 L := by
    have := hi 0 (by decide)
    rwa [show x3 + nI 0 = x3 from Int32.add_zero x3] at this
  refine va_sld hf.1 hf.2.1 hX hbl hbA hw.2.2.2.1 h0 dL_law_28 ?_
  refine lv_bipush (v := 31) hf.1 hf.2.1 dL_law_29 (by decide) ?_
  refine lv_iand hf.1 hf.2.1 dL_law_31 ?_
  obtain ⟨k, hk, ek⟩ := and31 (xs x3.toNatClampNeg)
  generalize (xs x3.toNatClampNeg &&& 31) = w at ek ⊢
  match k, hk, ek with
  | 0, _, ek => exact lv_tableIn (off := 144) (tgt := 176) hf.1 hf.2.1 dL_law_32 (by rw [ek]; decide) (by rw [ek]; decide) (by rw [ek]; rfl) (by decide) (lc_0 hf hl hw hX hbl hbA hi h hB kk)
  | 1, _, ek => exact lv_tableIn (off := 157) (tgt := 189) hf.1 hf.2.1 dL_law_32 (by rw [ek]; decide) (by rw [ek]; decide) (by rw [ek]; rfl) (by decide) (lc_1 hf hl hw hX hbl hbA hi h hB kk)
  | 2, _, ek => exact lv_tableIn (off := 200) (tgt := 232) hf.1 hf.2.1 dL_law_32 (by rw [ek]; decide) (by rw [ek]; decide) (by rw [ek]; rfl) (by decide) (lc_2 hf hl hw hX hbl hbA hi h hB kk)
  | 3, _, ek => exact lv_tableIn (off := 243) (tgt := 275) hf.1 hf.2.1 dL_law_32 (by rw [ek]; decide) (by rw [ek]; decide) (by rw [ek]; rfl) (by decide) (lc_3 hf hl hw hX hbl hbA hi h hB kk)
  | 4, _, ek => exact lv_tableIn (off := 276) (tgt := 308) hf.1 hf.2.1 dL_law_32 (by rw [ek]; decide) (by rw [ek]; decide) (by rw [ek]; rfl) (by decide) (lc_4 hf hl hw hX hbl hbA hi h hB kk)
  | 5, _, ek => exact lv_tableIn (off := 309) (tgt := 341) hf.1 hf.2.1 dL_law_32 (by rw [ek]; decide) (by rw [ek]; decide) (by rw [ek]; rfl) (by decide) (lc_5 hf hl hw hX hbl hbA hi h hB kk)
  | 6, _, ek => exact lv_tableIn (off := 352) (tgt := 384) hf.1 hf.2.1 dL_law_32 (by rw [ek]; decide) (by rw [ek]; decide) (by rw [ek]; rfl) (by decide) (lc_6 hf hl hw hX hbl hbA hi h hB kk)
  | 7, _, ek => exact lv_tableIn (off := 395) (tgt := 427) hf.1 hf.2.1 dL_law_32 (by rw [ek]; decide) (by rw [ek]; decide) (by rw [ek]; rfl) (by decide) (lc_7 hf hl hw hX hbl hbA hi h hB kk)
  | 8, _, ek => exact lv_tableIn (off := 418) (tgt := 450) hf.1 hf.2.1 dL_law_32 (by rw [ek]; decide) (by rw [ek]; decide) (by rw [ek]; rfl) (by decide) (lc_8 hf hl hw hX hbl hbA hi h hB kk)
  | 9, _, ek => exact lv_tableIn (off := 451) (tgt := 483) hf.1 hf.2.1 dL_law_32 (by rw [ek]; decide) (by rw [ek]; decide) (by rw [ek]; rfl) (by decide) (lc_9 hf hl hw hX hbl hbA hi h hB kk)
  | 10, _, ek => exact lv_tableIn (off := 484) (tgt := 516) hf.1 hf.2.1 dL_law_32 (by rw [ek]; decide) (by rw [ek]; decide) (by rw [ek]; rfl) (by decide) (lc_10 hf hl hw hX hbl hbA hi h hB kk)
  | 11, _, ek => exact lv_tableIn (off := 527) (tgt := 559) hf.1 hf.2.1 dL_law_32 (by rw [ek]; decide) (by rw [ek]; decide) (by rw [ek]; rfl) (by decide) (lc_11 hf hl hw hX hbl hbA hi h hB kk)
  | 12, _, ek => exact lv_tableIn (off := 570) (tgt := 602) hf.1 hf.2.1 dL_law_32 (by rw [ek]; decide) (by rw [ek]; decide) (by rw [ek]; rfl) (by decide) (lc_12 hf hl hw hX hbl hbA hi h hB kk)
  | 13, _, ek => exact lv_tableIn (off := 613) (tgt := 645) hf.1 hf.2.1 dL_law_32 (by rw [ek]; decide) (by rw [ek]; decide) (by rw [ek]; rfl) (by decide) (lc_13 hf hl hw hX hbl hbA hi h hB kk)
  | 14, _, ek => exact lv_tableIn (off := 646) (tgt := 678) hf.1 hf.2.1 dL_law_32 (by rw [ek]; decide) (by rw [ek]; decide) (by rw [ek]; rfl) (by decide) (lc_14 hf hl hw hX hbl hbA hi h hB kk)
  | 15, _, ek => exact lv_tableIn (off := 679) (tgt := 711) hf.1 hf.2.1 dL_law_32 (by rw [ek]; decide) (by rw [ek]; decide) (by rw [ek]; rfl) (by decide) (lc_15 hf hl hw hX hbl hbA hi h hB kk)
  | 16, _, ek => exact lv_tableIn (off := 732) (tgt := 764) hf.1 hf.2.1 dL_law_32 (by rw [ek]; decide) (by rw [ek]; decide) (by rw [ek]; rfl) (by decide) (lc_16 hf hl hw hX hbl hbA hi h hB kk)
  | 17, _, ek => exact lv_tableIn (off := 765) (tgt := 797) hf.1 hf.2.1 dL_law_32 (by rw [ek]; decide) (by rw [ek]; decide) (by rw [ek]; rfl) (by decide) (lc_17 hf hl hw hX hbl hbA hi h hB kk)
  | 18, _, ek => exact lv_tableIn (off := 798) (tgt := 830) hf.1 hf.2.1 dL_law_32 (by rw [ek]; decide) (by rw [ek]; decide) (by rw [ek]; rfl) (by decide) (lc_18 hf hl hw hX hbl hbA hi h hB kk)
  | 19, _, ek => exact lv_tableIn (off := 851) (tgt := 883) hf.1 hf.2.1 dL_law_32 (by rw [ek]; decide) (by rw [ek]; decide) (by rw [ek]; rfl) (by decide) (lc_19 hf hl hw hX hbl hbA hi h hB kk)
  | 20, _, ek => exact lv_tableIn (off := 884) (tgt := 916) hf.1 hf.2.1 dL_law_32 (by rw [ek]; decide) (by rw [ek]; decide) (by rw [ek]; rfl) (by decide) (lc_20 hf hl hw hX hbl hbA hi h hB kk)
  | 21, _, ek => exact lv_tableIn (off := 907) (tgt := 939) hf.1 hf.2.1 dL_law_32 (by rw [ek]; decide) (by rw [ek]; decide) (by rw [ek]; rfl) (by decide) (lc_21 hf hl hw hX hbl hbA hi h hB kk)
  | 22, _, ek => exact lv_tableIn (off := 930) (tgt := 962) hf.1 hf.2.1 dL_law_32 (by rw [ek]; decide) (by rw [ek]; decide) (by rw [ek]; rfl) (by decide) (lc_22 hf hl hw hX hbl hbA hi h hB kk)
  | 23, _, ek => exact lv_tableIn (off := 943) (tgt := 975) hf.1 hf.2.1 dL_law_32 (by rw [ek]; decide) (by rw [ek]; decide) (by rw [ek]; rfl) (by decide) (lc_23 hf hl hw hX hbl hbA hi h hB kk)
  | 24, _, ek => exact lv_tableIn (off := 976) (tgt := 1008) hf.1 hf.2.1 dL_law_32 (by rw [ek]; decide) (by rw [ek]; decide) (by rw [ek]; rfl) (by decide) (lc_24 hf hl hw hX hbl hbA hi h hB kk)
  | 25, _, ek => exact lv_tableIn (off := 999) (tgt := 1031) hf.1 hf.2.1 dL_law_32 (by rw [ek]; decide) (by rw [ek]; decide) (by rw [ek]; rfl) (by decide) (lc_25 hf hl hw hX hbl hbA hi h hB kk)
  | 26, _, ek => exact lv_tableIn (off := 1022) (tgt := 1054) hf.1 hf.2.1 dL_law_32 (by rw [ek]; decide) (by rw [ek]; decide) (by rw [ek]; rfl) (by decide) (lc_26 hf hl hw hX hbl hbA hi h hB kk)
  | 27, _, ek => exact lv_tableIn (off := 1045) (tgt := 1077) hf.1 hf.2.1 dL_law_32 (by rw [ek]; decide) (by rw [ek]; decide) (by rw [ek]; rfl) (by decide) (lc_27 hf hl hw hX hbl hbA hi h hB kk)
  | 28, _, ek => exact lv_tableIn (off := 1058) (tgt := 1090) hf.1 hf.2.1 dL_law_32 (by rw [ek]; decide) (by rw [ek]; decide) (by rw [ek]; rfl) (by decide) (lc_28 hf hl hw hX hbl hbA hi h hB kk)
  | 29, _, ek => exact lv_tableIn (off := 1081) (tgt := 1113) hf.1 hf.2.1 dL_law_32 (by rw [ek]; decide) (by rw [ek]; decide) (by rw [ek]; rfl) (by decide) (lc_29 hf hl hw hX hbl hbA hi h hB kk)
  | 30, _, ek => exact lv_tableIn (off := 1094) (tgt := 1126) hf.1 hf.2.1 dL_law_32 (by rw [ek]; decide) (by rw [ek]; decide) (by rw [ek]; rfl) (by decide) (lc_30 hf hl hw hX hbl hbA hi h hB kk)
  | 31, _, ek => exact lv_tableIn (off := 1117) (tgt := 1149) hf.1 hf.2.1 dL_law_32 (by rw [ek]; decide) (by rw [ek]; decide) (by rw [ek]; rfl) (by decide) (lc_31 hf hl hw hX hbl hbA hi h hB kk)
  | k + 32, hk, _ => exact absurd hk (by omega)
set_option maxHeartbeats 4000000 in
set_option maxRecDepth 100000 in
theorem law_loop (hf : CallFix p m c code 4 s #[Value.ref b] wsL_law RL) (hr : meth.sig.returnType = ret) (hlocks : meth.locks = false) (hL : L ≤ 2560) (hX : va_X b L xs s s.heap) (hbl : b < s.heap.size) (hbA : ¬ inE E b) (hA : ∀ q, inE E q → s.heap.size ≤ q) :
    ∀ (n i B : Nat) (x3 : Int32) (μ : Mu) (H : Heap) (locs : List Loc) (ls : Array Slot), x3 = nI i → i < 5000 → L < i + 5 * n → B + 61 * n < 2 ^ 30 → Wk E μ s H locs → Inv B μ → lv_has ls 4 (lvL E b x3) → W p l e room_1 s m #[Value.ref b] below meth c H locs 240 3758 (lw_Z below #[Value.ref b] s) (F0 m 18 ls []) := by
  intro n
  induction n with
  | zero =>
    intro i B x3 μ H locs ls hi hi2 hn hB hw h hl
    exact law_head hf hr hlocks hL hl hw hX hbl hbA hA hi (by omega) (fun q => absurd q (by omega))
  | succ n ih =>
    intro i B x3 μ H locs ls hi hi2 hn hB hw h hl
    refine law_head hf hr hlocks hL hl hw hX hbl hbA hA hi (by omega) (fun q => ?_)
    refine law_step hf hl hw hX hbl hbA (fun k hk => ?_) h (by omega) (fun H locs μ hw h => ?_)
    · rw [hi, nI_add]
      exact vp_in_nI (by omega) (by omega)
    refine lv_iinc (v := nI (i + 5)) (k := 3) (lv' := [(3, .int (nI (i + 5))), (0, .ref b), (1, .ref (E.1 231)), (2, .ref (E.1 232))]) hf.1 hf.2.1 dL_law_1162 hl rfl (by rw [hi]; exact nI_add i 5) (by decide) rfl (fun ls hl => ?_)
    refine lv_goto (tgt := 18) hf.1 hf.2.1 dL_law_1165 (by decide) ?_
    exact ih (i + 5) (B + 61) (nI (i + 5)) μ H locs ls rfl (by omega) (by omega) (by omega) hw h (lv_sub hl [1, 2, 3, 0] rfl)
end LL
set_option maxHeartbeats 4000000 in
set_option maxRecDepth 100000 in
theorem whole_start {p : Program} {e : Env} {s : State} {m : MethodId} {below : List Frame} {meth : Method} {c : Code} (l : Launch) (hflags : l.flags = flags0) {b L : Nat} {xs : Nat → Int32} (hL : L ≤ 2560) (C0 : lw_At p s m meth c b L xs) : W p l e room_1 s m #[Value.ref b] below meth c s.heap [] 0 0 (lw_Z below #[Value.ref b] s) (entryFrame m ([Value.ref b] : List Value).toArray 4) := by
  obtain ⟨hx, hb, hr, hml, hown, hts, hX, hbl, hlocks, hgv⟩ := id C0
  have hf : CallFix p m c code 4 s #[Value.ref b] wsL_law RL := ⟨hx, hb, hml, hown, fun w h => hts w (wsL_tbl w h)⟩
  have hs := flat_of_before _ hgv
  obtain ⟨t0, z0, y0⟩ := tab_0 hts hs
  obtain ⟨t1, z1, y1⟩ := tab_1 hts hs
  obtain ⟨t2, z2, y2⟩ := tab_2 hts hs
  obtain ⟨t3, z3, y3⟩ := tab_3 hts hs
  obtain ⟨t4, z4, y4⟩ := tab_4 hts hs
  have hao := aos_of hts
  obtain ⟨G, dA, hK⟩ := k_of hf.2.2.2.2 hao
  have hn : Nk (fun _ => t4, G, dA) (fun q => s.heap.size ≤ q) [] s s.heap [] := ⟨fun k q h => by simp at h, ⟨fun i j p q h => by simp at h, fun k q h => by simp at h⟩, va_S.rf, fun q h => h, hK _, nws_of hts, hao, z4, y4⟩
  have hl := lv_entry ([.ref b]) (n := 4) (Nat.le_of_ble_eq_true rfl)
  rw [lg_entry_eq]
  generalize (lg_sl ([.ref b]) ++ List.replicate (4 - (lg_sl ([.ref b])).length) Slot.unset).toArray = ls at hl ⊢
  have hl : lv_has ls 4 [(0, .ref b)] := hl
  refine n_new hn hf (ci := 7) (C := RX7) (T := TX7) (N := 10) rfl inlX7 tyX7_ok q0 q1 q2 [.null, .null, .null, .null, .null, .null, .null, .int 0, .int 0, .int 0] (fun j hj => by rcases (show j = 0 ∨ j = 1 ∨ j = 2 ∨ j = 3 ∨ j = 4 ∨ j = 5 ∨ j = 6 ∨ j = 7 ∨ j = 8 ∨ j = 9 by omega) with rfl | rfl | rfl | rfl | rfl | rfl | rfl | rfl | rfl | rfl <;> rfl) ⟨Nat.le_of_ble_eq_true rfl, Nat.le_of_ble_eq_true rfl⟩ dL_law_0 (fun a1 H hn => ?_)
  refine W.widen (k := 1) (n := 10) (by decide) (by decide) ?_
  refine lv_dup hx hb dL_law_3 rfl ?_
  refine n_call (index := 9) hn hf (k_X7_init l _ a1 H.size) q6 q7 q8 q2 rfl (by decide +kernel) ⟨rfl, rfl⟩ ⟨Nat.le_of_ble_eq_true rfl, Nat.le_of_ble_eq_true rfl⟩ hl.1 (Nat.le_of_ble_eq_true rfl) dL_law_4 ⟨Nat.le_of_ble_eq_true rfl, Nat.le_of_ble_eq_true rfl⟩ (fun u H2 locs2 hu hn2 => ?_)
  subst hu
  refine W.widen (k := 232) (n := 1863) (by decide) (by decide) ?_
  refine lv_astore_n (lv' := [(1, .ref u.1), (0, .ref b)]) hx hb dL_law_7 rfl hl (by decide) rfl (fun ls hl => ?_)
  refine n_new hn2 hf (ci := 8) (C := RX8) (T := TX8) (N := 11) rfl inlX8 tyX8_ok q3 q4 q5 [.null, .null, .null, .null, .int 0, .null, .int 0, .int 0, .int 0, .null, .null] (fun j hj => by rcases (show j = 0 ∨ j = 1 ∨ j = 2 ∨ j = 3 ∨ j = 4 ∨ j = 5 ∨ j = 6 ∨ j = 7 ∨ j = 8 ∨ j = 9 ∨ j = 10 by omega) with rfl | rfl | rfl | rfl | rfl | rfl | rfl | rfl | rfl | rfl | rfl <;> rfl) ⟨Nat.le_of_ble_eq_true rfl, Nat.le_of_ble_eq_true rfl⟩ dL_law_8 (fun a2 H3 hn3 => ?_)
  refine W.widen (k := 233) (n := 1874) (by decide) (by decide) ?_
  refine lv_dup hx hb dL_law_11 rfl ?_
  refine n_call (index := 12) hn3 hf (k_X8_init l _ a2 H3.size) q86 q87 q88 q5 rfl (by decide +kernel) ⟨rfl, rfl⟩ ⟨Nat.le_of_ble_eq_true rfl, Nat.le_of_ble_eq_true rfl⟩ hl.1 (Nat.le_of_ble_eq_true rfl) dL_law_12 ⟨Nat.le_of_ble_eq_true rfl, Nat.le_of_ble_eq_true rfl⟩ (fun r H4 locs4 hu hn4 => ?_)
  subst hu
  refine W.widen (k := 240) (n := 3758) (by decide) (by decide) ?_
  refine lv_astore_n (lv' := [(2, .ref r.1), (1, .ref u.1), (0, .ref b)]) hx hb dL_law_15 rfl hl (by decide) rfl (fun ls hl => ?_)
  refine lv_iconst (v := 0) hx hb dL_law_16 (by decide) ?_
  refine lv_istore_n (lv' := [(3, .int 0), (2, .ref r.1), (1, .ref u.1), (0, .ref b)]) hx hb dL_law_17 rfl hl (by decide) rfl (fun ls hl => ?_)
  refine va_forget (fun q hq => hn4.2.2.1.2.2 q hq) ?_
  have hE : (En0 G dA (fun k => [t0, t1, t2, t3, t4].getD k 0) u r).2 = ((fun _ => t4, G, dA) : En).2 := rfl
  have hP := wd_P hE (D := G) (H := H4) hn4.1
  obtain ⟨d1, d2⟩ := wd_D hE hn4.2.1
  have hw : Wk (En0 G dA (fun k => [t0, t1, t2, t3, t4].getD k 0) u r) μ0 s H4 [] := ⟨hP, hK _, d1, ⟨hn4.2.2.1.1, fun q h1 _ => hn4.2.2.1.2.1 q h1 (Nat.not_le.mpr h1), fun _ h => by cases h⟩, ⟨z0.narrow d2, y0.narrow d2⟩, ⟨z1.narrow d2, y1.narrow d2⟩, ⟨z2.narrow d2, y2.narrow d2⟩, ⟨z3.narrow d2, y3.narrow d2⟩, ⟨z4.narrow d2, y4.narrow d2⟩⟩
  exact law_loop hf hr hlocks hL hX hbl (fun h => Nat.not_le.mpr hbl (d2 b h)) d2 513 0 0 0 μ0 H4 [] ls rfl (by decide) (by omega) (by decide) hw inv_0 (lv_sub hl [3, 2, 1, 0] rfl)
