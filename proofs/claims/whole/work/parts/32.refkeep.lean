/-! ===== the reference: what is kept, recorded ===== -/
theorem pC_0 (μ : Mu) (c b c' b' : Nat) : pC μ c b c' b' 0 = μ := by
  refine Prod.ext ?_ rfl
  funext x y
  show (if x = c ∧ b ≤ y ∧ y < b + 0 then _ else μ.1 x y) = μ.1 x y
  rw [if_neg (fun q => by omega)]
def lp_X8_keeps_2 (μ : Mu)   : Nat → Nat → Mu → Mu
  | 0, _, μ1 => μ1
  | f + 1, k, μ1 =>
    if (259 : Int32) ≤ nI k then
      μ1
    else
      lp_X8_keeps_2 μ  f (k + 1) (pM μ1 11 k ((μ1).1 8 k))
def sp_X8_keeps (μ : Mu)   : Mu :=
  lp_X8_keeps_2 μ  260 0 μ
set_option maxHeartbeats 4000000 in
set_option maxRecDepth 100000 in
theorem k_X8_keeps (l : Launch) (E : En) (μ : Mu)    : MtV l yX8_keeps cX8_keeps 2 ({ frames := 0, cells := 0, slots := 0, locals := 0 }) [.ref (E.1 (232))] E μ (sp_X8_keeps μ ) := by
  refine mt_of (by decide +kernel) (Nat.le_of_ble_eq_true rfl) ?_
  intro p e s m args below meth c ls hf hr hlocks hl hw
  have hx := hf.1
  have hb := hf.2.1
  have hl : lv_has ls 2 [(0, .ref (E.1 (232)))] := hl
  refine lv_iconst (v := 0) hx hb dX8_keeps_0 (by decide) ?_
  refine lv_istore_n (lv' := [(1, .int 0), (0, .ref (E.1 (232)))]) hx hb dX8_keeps_1 rfl hl (by decide) rfl (fun ls hl => ?_)
  have key_2 : ∀ (f : Nat) (k : Nat) (μ1 : Mu), k + f = 260 → k ≤ 259 → sp_X8_keeps μ  = lp_X8_keeps_2 μ  f k μ1 → ∀ (ls : Array Slot) (H : Heap) (locs : List Loc), lv_has ls 2 [(0, .ref (E.1 (232))), (1, .int (nI k))] → Wk E μ1 s H locs → W p l e ({ frames := 0, cells := 0, slots := 0, locals := 0 }) s m args below meth c H locs 0 0 (MQ below (va_Qv (fun u => u = (sp_X8_keeps μ )) (fun u t => WdU E u t) (inE E)) args s 0 0 (inE E)) (F0 m 2 ls []) := by
    intro f
    induction f with
    | zero => intro k μ1 h1 h2 hq ls H locs hl hw; exfalso; omega
    | succ f ih =>
      intro k μ1 h1 h2 hq ls H locs hl hw
      refine lv_iload_n hx hb dX8_keeps_2 rfl (lv_at hl 1 rfl) ?_
      refine lv_sipush (v := 259) hx hb dX8_keeps_3 (by decide) ?_
      refine lv_icmp_ge (tgt := 27) hx hb dX8_keeps_6 (by decide) (fun c1 => ?_) (fun c1 => ?_)
      · have c1n : 259 ≤ k := by have q := (nI_leI (a := 259) (b := k) (by omega) (by omega)); first | exact q.mp c1 | exact fun z => c1 (q.mpr z)
        exact e_v hf hr hlocks hw ((hq).trans ((if_pos c1).trans rfl)) dX8_keeps_27
      · have c1n : ¬ 259 ≤ k := by have q := (nI_leI (a := 259) (b := k) (by omega) (by omega)); first | exact q.mp c1 | exact fun z => c1 (q.mpr z)
        refine lv_aload_n hx hb dX8_keeps_9 rfl (lv_at hl 0 rfl) ?_
        refine g_f hw hf (by decide) (c_R E _) rfl inlX8 3 (by decide) rfl q93 rfl dX8_keeps_10 ?_
        refine lv_iload_n hx hb dX8_keeps_13 rfl (lv_at hl 1 rfl) ?_
        refine lv_aload_n hx hb dX8_keeps_14 rfl (lv_at hl 0 rfl) ?_
        refine g_f hw hf (by decide) (c_R E _) rfl inlX8 0 (by decide) rfl q90 rfl dX8_keeps_15 ?_
        refine lv_iload_n hx hb dX8_keeps_18 rfl (lv_at hl 1 rfl) ?_
        refine g_a hw hf (by decide) (c_Rs E _) (vp_in_nI (show k < 259 from (by omega)) (by decide)) (tr_at (y := k) (by omega) (nI_clamp (Nat.lt_trans (show k < 259 from (by omega)) (by decide)))) dX8_keeps_19 ?_
        refine p_a hw hf (by decide) (c_Rb E _) (vp_in_nI (show k < 259 from (by omega)) (by decide)) (by rw [show (nI k).toNatClampNeg = k from (nI_clamp (Nat.lt_trans (show k < 259 from (by omega)) (by decide)))]; exact (s_Rb E _ (by omega) _)) dX8_keeps_20 (fun H locs hw => ?_)
        refine lv_iinc (v := nI (k + 1)) (lv' := [(1, .int (nI (k + 1))), (0, .ref (E.1 (232)))]) hx hb dX8_keeps_21 hl (k := 1) rfl (nI_1 _) (by decide) rfl (fun ls hl => ?_)
        refine lv_goto (tgt := 2) hx hb dX8_keeps_24 (by decide) ?_
        exact ih (k + 1) (pM μ1 11 k ((μ1).1 8 k)) (by omega) (by omega) (((hq).trans ((if_neg c1).trans rfl))) _ _ _ (lv_sub hl [1, 0] rfl) hw
  exact key_2 260 0 μ (by omega) (by omega) (rfl) _ _ _ (lv_sub hl [1, 0] rfl) hw
theorem n_X8_keeps (μ : Mu)    : (sp_X8_keeps μ ) = pC μ 11 0 8 0 259 := by
  have key : ∀ (f k : Nat) (μ1 : Mu), k + f = 260 → k ≤ 259 → lp_X8_keeps_2 μ f k μ1 = pC μ1 11 k 8 k (259 - k) := by
    intro f
    induction f with
    | zero => intro k μ1 h1 h2; omega
    | succ f ih =>
      intro k μ1 h1 h2
      unfold lp_X8_keeps_2
      have e : ((259 : Int32) ≤ nI k) ↔ 259 ≤ k := nI_leI (a := 259) (by decide) (by omega)
      by_cases h : 259 ≤ k
      · rw [if_pos (e.mpr h), show 259 - k = 0 by omega, pC_0]
      · rw [if_neg (fun q => h (e.mp q)), ih (k + 1) _ (by omega) (by omega), pM_pC, pC_join _ (by decide), show 1 + (259 - (k + 1)) = 259 - k by omega]
  exact key 260 0 μ (by omega) (by omega)
theorem kn_X8_keeps (l : Launch) (E : En) (μ : Mu)    : MtV l yX8_keeps cX8_keeps 2 ({ frames := 0, cells := 0, slots := 0, locals := 0 }) [.ref (E.1 (232))] E μ (pC μ 11 0 8 0 259) := by
  rw [← n_X8_keeps μ  ]
  exact k_X8_keeps l E μ   
