/-! ===== OhmBridge: a float's bits ===== -/
theorem lw_ldcwF {p : Program} {l : Launch} {e : Env} {R : Room} {s : State} {m : MethodId} {args : Array Value} {below : List Frame} {meth : Method} {c : Code} {H : Heap} {locs : List Loc} {cells slots : Nat} {Q : State → Prop} {cc : ByteArray} {pc : Nat} {ls : Array Slot} {rest : List Value} (hexec : p.tables.exec = Jvm.exec) (hb : c.code = cc) {own : String} {index : Nat} {v : UInt32} (hown : s.vm.findClass own = some m.cls) (hconst : (Cond.constantFloat own index v).before args s = true) (hdg : decode cc pc = .ok (.ldc_w index, 3))
    (k : W p l e R s m args below meth c H locs cells slots Q (F0 m (pc + 3) ls (.float v :: rest))) : W p l e R s m args below meth c H locs cells slots Q (F0 m pc ls rest) := by
  intro T hT X
  obtain ⟨t, a, b⟩ := k T hT X
  refine ⟨t, ?_, b⟩
  obtain ⟨kc, cf, hk, hcf, hcp⟩ := Cond.constantFloat_spec hown hconst
  obtain ⟨k', hk', he⟩ := X.warmed.alike.2.2 _ _ hk
  have hcf' : k'.cf = some cf := by rw [he]; exact hcf
  jvm_step X.here [X.here.top, hexec, hb, hdg, Op.ldc_w.sem, Op.ldc.sem, Jvm.constantAt, hk', hcf', hcp]
  exact a
theorem f2_fin : FP.Core.FFin FP.fconst2 := (FP.Core.fin_bits32 _).mpr (by decide)
theorem f2_nz : ¬ FP.Core.FZero FP.fconst2 := fun q => absurd ((FP.Core.zero_bits232 _).mp q) (by decide)
theorem fh {w : UInt32} (h : FP.Core.fIsNaN w = false) : FP.Core.fIsNaN (FP.fdiv w FP.fconst2) = false := FP.Core.fdiv_out h f2_fin f2_nz
theorem fd {w : UInt32} (h : FP.Core.fIsNaN w = false) : FP.Core.fIsNaN (FP.fmul w FP.fconst2) = false := FP.Core.fmul_out' h f2_fin f2_nz
theorem fs1 {w : UInt32} (h : FP.Core.fIsNaN w = false) : FP.Core.fIsNaN (FP.fsub w FP.fconst1) = false := FP.Core.fsub_out h ((FP.Core.fin_bits32 _).mpr (by decide))
theorem fx8 {w : UInt32} (h : FP.Core.fIsNaN w = false) : FP.Core.fIsNaN (FP.fmul w 1258291200) = false := FP.Core.fmul_out' h ((FP.Core.fin_bits32 _).mpr (by decide)) (fun q => absurd ((FP.Core.zero_bits232 _).mp q) (by decide))
theorem fng {w : UInt32} (h : FP.Core.fIsNaN w = false) : FP.Core.fIsNaN (FP.fneg w) = false := (FP.fneg_nan w).trans h
def lp_X7_bitsOf_54   (v : UInt32) : Nat → UInt32 → Int32 → Nat → Int32
  | 0, _, _, _ => 0
  | f + 1, w2, ex2, k2 =>
    if (150 : Int32) ≤ nI k2 then
      if (0 : Int32) ≤ Op.cmpValue (FP.fcmp v FP.fconst0) .g then
        (0 ||| (ex2 <<< ((23 : Int32) &&& 31))) ||| (FP.f2i (FP.fmul (FP.fsub w2 FP.fconst1) ((1258291200 : UInt32))))
      else
        ((-2147483648) ||| (ex2 <<< ((23 : Int32) &&& 31))) ||| (FP.f2i (FP.fmul (FP.fsub w2 FP.fconst1) ((1258291200 : UInt32))))
    else
      if (0 : Int32) ≤ Op.cmpValue (FP.fcmp w2 FP.fconst1) .g then
        if (0 : Int32) ≤ Op.cmpValue (FP.fcmp v FP.fconst0) .g then
          (0 ||| (ex2 <<< ((23 : Int32) &&& 31))) ||| (FP.f2i (FP.fmul (FP.fsub w2 FP.fconst1) ((1258291200 : UInt32))))
        else
          ((-2147483648) ||| (ex2 <<< ((23 : Int32) &&& 31))) ||| (FP.f2i (FP.fmul (FP.fsub w2 FP.fconst1) ((1258291200 : UInt32))))
      else
        lp_X7_bitsOf_54  v f (FP.fmul w2 FP.fconst2) (ex2 + (-1)) (k2 + 1)
def lp_X7_bitsOf_26   (v : UInt32) : Nat → UInt32 → Int32 → Nat → Int32
  | 0, _, _, _ => 0
  | f + 1, w, ex, k =>
    if (150 : Int32) ≤ nI k then
      lp_X7_bitsOf_54  v 151 w ex 0
    else
      if (Op.cmpValue (FP.fcmp w FP.fconst2) .l : Int32) < 0 then
        lp_X7_bitsOf_54  v 151 w ex 0
      else
        lp_X7_bitsOf_26  v f (FP.fdiv w FP.fconst2) (ex + 1) (k + 1)
def sp_X7_bitsOf   (v : UInt32) : Int32 :=
  if (Op.cmpValue (FP.fcmp v FP.fconst0) .l : Int32) = 0 then
    0
  else
    if (0 : Int32) ≤ Op.cmpValue (FP.fcmp v FP.fconst0) .g then
      lp_X7_bitsOf_26  v 151 v (127 : Int32) 0
    else
      lp_X7_bitsOf_26  v 151 (FP.fneg v) (127 : Int32) 0
set_option maxHeartbeats 4000000 in
set_option maxRecDepth 100000 in
theorem k_X7_bitsOf (l : Launch) (E : En) (μ : Mu)  (v : UInt32) (hnv : FP.Core.fIsNaN v = false) : MtI l yX7_bitsOf cX7_bitsOf 5 .int ({ frames := 0, cells := 0, slots := 0, locals := 0 }) [.float (v)] E μ ((sp_X7_bitsOf  v), μ) := by
  refine mt_of (by decide +kernel) (Nat.le_of_ble_eq_true rfl) ?_
  intro p e s m args below meth c ls hf hr hlocks hl hw
  have hx := hf.1
  have hb := hf.2.1
  have hl : lv_has ls 5 [(0, .float (v))] := hl
  refine lv_fload_n hx hb dX7_bitsOf_0 rfl (lv_at hl 0 rfl) ?_
  refine lv_fconst0 hx hb dX7_bitsOf_1 ?_
  refine lv_fcmp hx hb dX7_bitsOf_2 ?_
  refine lv_if_ne (tgt := 8) hx hb dX7_bitsOf_3 (by decide) (fun c1 => ?_) (fun c1 => ?_)
  · refine lv_fload_n hx hb dX7_bitsOf_8 rfl (lv_at hl 0 rfl) ?_
    refine lv_fconst0 hx hb dX7_bitsOf_9 ?_
    refine lv_fcmp hx hb dX7_bitsOf_10 ?_
    refine lv_if_ge (tgt := 19) hx hb dX7_bitsOf_11 (by decide) (fun c2 => ?_) (fun c2 => ?_)
    · refine lv_fload_n hx hb dX7_bitsOf_19 rfl (lv_at hl 0 rfl) ?_
      refine lv_fstore_n (lv' := [(1, .float (v)), (0, .float (v))]) hx hb dX7_bitsOf_20 rfl hl (by decide) rfl (fun ls hl => ?_)
      refine lv_bipush (v := 127) hx hb dX7_bitsOf_21 (by decide) ?_
      refine lv_istore_n (lv' := [(2, .int 127), (1, .float (v)), (0, .float (v))]) hx hb dX7_bitsOf_23 rfl hl (by decide) rfl (fun ls hl => ?_)
      refine lv_iconst (v := 0) hx hb dX7_bitsOf_24 (by decide) ?_
      refine lv_istore_n (lv' := [(3, .int 0), (2, .int 127), (1, .float (v)), (0, .float (v))]) hx hb dX7_bitsOf_25 rfl hl (by decide) rfl (fun ls hl => ?_)
      have key_26 : ∀ (f : Nat) (w : UInt32) (ex : Int32) (k : Nat), k + f = 151 → k ≤ 150 → FP.Core.fIsNaN w = false → sp_X7_bitsOf  v = lp_X7_bitsOf_26  v f w ex k → ∀ (ls : Array Slot) (H : Heap) (locs : List Loc), lv_has ls 5 [(0, .float (v)), (1, .float (w)), (2, .int (ex)), (3, .int (nI k))] → Wk E μ s H locs → W p l e ({ frames := 0, cells := 0, slots := 0, locals := 0 }) s m args below meth c H locs 0 0 (MQ below (va_Qi (fun r u => r = ((sp_X7_bitsOf  v, μ)).1 ∧ u = ((sp_X7_bitsOf  v, μ)).2) (fun u t => WdU E u t) (inE E)) args s 0 0 (inE E)) (F0 m 26 ls []) := by
        intro f
        induction f with
        | zero => intro w ex k h1 h2 hn1 hq ls H locs hl hw; exfalso; omega
        | succ f ih =>
          intro w ex k h1 h2 hn1 hq ls H locs hl hw
          refine lv_iload_n hx hb dX7_bitsOf_26 rfl (lv_at hl 3 rfl) ?_
          refine lv_sipush (v := 150) hx hb dX7_bitsOf_27 (by decide) ?_
          refine lv_icmp_ge (tgt := 52) hx hb dX7_bitsOf_30 (by decide) (fun c3 => ?_) (fun c3 => ?_)
          · have c3n : 150 ≤ k := by have q := (nI_leI (a := 150) (b := k) (by omega) (by omega)); first | exact q.mp c3 | exact fun z => c3 (q.mpr z)
            refine lv_iconst (v := 0) hx hb dX7_bitsOf_52 (by decide) ?_
            refine lv_istore_n (lv' := [(3, .int 0), (0, .float (v)), (1, .float (w)), (2, .int (ex))]) hx hb dX7_bitsOf_53 rfl hl (by decide) rfl (fun ls hl => ?_)
            have key_54 : ∀ (f : Nat) (w2 : UInt32) (ex2 : Int32) (k2 : Nat), k2 + f = 151 → k2 ≤ 150 → FP.Core.fIsNaN w2 = false → sp_X7_bitsOf  v = lp_X7_bitsOf_54  v f w2 ex2 k2 → ∀ (ls : Array Slot) (H : Heap) (locs : List Loc), lv_has ls 5 [(0, .float (v)), (1, .float (w2)), (2, .int (ex2)), (3, .int (nI k2))] → Wk E μ s H locs → W p l e ({ frames := 0, cells := 0, slots := 0, locals := 0 }) s m args below meth c H locs 0 0 (MQ below (va_Qi (fun r u => r = ((sp_X7_bitsOf  v, μ)).1 ∧ u = ((sp_X7_bitsOf  v, μ)).2) (fun u t => WdU E u t) (inE E)) args s 0 0 (inE E)) (F0 m 54 ls []) := by
              intro f
              induction f with
              | zero => intro w2 ex2 k2 h1 h2 hn2 hq ls H locs hl hw; exfalso; omega
              | succ f ih =>
                intro w2 ex2 k2 h1 h2 hn2 hq ls H locs hl hw
                refine lv_iload_n hx hb dX7_bitsOf_54 rfl (lv_at hl 3 rfl) ?_
                refine lv_sipush (v := 150) hx hb dX7_bitsOf_55 (by decide) ?_
                refine lv_icmp_ge (tgt := 80) hx hb dX7_bitsOf_58 (by decide) (fun c4 => ?_) (fun c4 => ?_)
                · have c4n : 150 ≤ k2 := by have q := (nI_leI (a := 150) (b := k2) (by omega) (by omega)); first | exact q.mp c4 | exact fun z => c4 (q.mpr z)
                  refine lv_fload_n hx hb dX7_bitsOf_80 rfl (lv_at hl 1 rfl) ?_
                  refine lv_fconst1 hx hb dX7_bitsOf_81 ?_
                  refine lv_fsub hx hb dX7_bitsOf_82 (nn32 (fs1 hn2)) ?_
                  refine lw_ldcwF hx hb hf.2.2.2.1 (hf.2.2.2.2 _ q848) dX7_bitsOf_83 ?_
                  refine lv_fmul hx hb dX7_bitsOf_86 (nn32 (fx8 (fs1 hn2))) ?_
                  refine lv_f2i hx hb dX7_bitsOf_87 ?_
                  refine lv_istore_n (lv' := [(3, .int (FP.f2i (FP.fmul (FP.fsub w2 FP.fconst1) ((1258291200 : UInt32))))), (0, .float (v)), (1, .float (w2)), (2, .int (ex2))]) hx hb dX7_bitsOf_88 rfl hl (by decide) rfl (fun ls hl => ?_)
                  refine lv_fload_n hx hb dX7_bitsOf_89 rfl (lv_at hl 1 rfl) ?_
                  refine lv_fconst0 hx hb dX7_bitsOf_90 ?_
                  refine lv_fcmp hx hb dX7_bitsOf_91 ?_
                  refine lv_if_ge (tgt := 101) hx hb dX7_bitsOf_92 (by decide) (fun c5 => ?_) (fun c5 => ?_)
                  · refine lv_iconst (v := 0) hx hb dX7_bitsOf_101 (by decide) ?_
                    refine lv_istore (lv' := [(4, .int 0), (3, .int (FP.f2i (FP.fmul (FP.fsub w2 FP.fconst1) ((1258291200 : UInt32))))), (0, .float (v)), (1, .float (w2)), (2, .int (ex2))]) hx hb dX7_bitsOf_102 hl (by decide) rfl (fun ls hl => ?_)
                    refine lv_iload hx hb dX7_bitsOf_104 (lv_at hl 0 rfl) ?_
                    refine lv_iload_n hx hb dX7_bitsOf_106 rfl (lv_at hl 4 rfl) ?_
                    refine lv_bipush (v := 23) hx hb dX7_bitsOf_107 (by decide) ?_
                    refine lv_ishl hx hb dX7_bitsOf_109 ?_
                    refine lv_ior hx hb dX7_bitsOf_110 ?_
                    refine lv_iload_n hx hb dX7_bitsOf_111 rfl (lv_at hl 1 rfl) ?_
                    refine lv_ior hx hb dX7_bitsOf_112 ?_
                    exact e_i hf hr hlocks hw rfl (congrArg (fun z => (z, μ)) ((hq).trans ((if_pos c4).trans ((if_pos c5).trans rfl)))) dX7_bitsOf_113
                  · refine lv_ldcw hx hb hf.2.2.2.1 (hf.2.2.2.2 _ q849) dX7_bitsOf_95 ?_
                    refine lv_goto (tgt := 102) hx hb dX7_bitsOf_98 (by decide) ?_
                    refine lv_istore (lv' := [(4, .int (-2147483648)), (3, .int (FP.f2i (FP.fmul (FP.fsub w2 FP.fconst1) ((1258291200 : UInt32))))), (0, .float (v)), (1, .float (w2)), (2, .int (ex2))]) hx hb dX7_bitsOf_102 hl (by decide) rfl (fun ls hl => ?_)
                    refine lv_iload hx hb dX7_bitsOf_104 (lv_at hl 0 rfl) ?_
                    refine lv_iload_n hx hb dX7_bitsOf_106 rfl (lv_at hl 4 rfl) ?_
                    refine lv_bipush (v := 23) hx hb dX7_bitsOf_107 (by decide) ?_
                    refine lv_ishl hx hb dX7_bitsOf_109 ?_
                    refine lv_ior hx hb dX7_bitsOf_110 ?_
                    refine lv_iload_n hx hb dX7_bitsOf_111 rfl (lv_at hl 1 rfl) ?_
                    refine lv_ior hx hb dX7_bitsOf_112 ?_
                    exact e_i hf hr hlocks hw rfl (congrArg (fun z => (z, μ)) ((hq).trans ((if_pos c4).trans ((if_neg c5).trans rfl)))) dX7_bitsOf_113
                · have c4n : ¬ 150 ≤ k2 := by have q := (nI_leI (a := 150) (b := k2) (by omega) (by omega)); first | exact q.mp c4 | exact fun z => c4 (q.mpr z)
                  refine lv_fload_n hx hb dX7_bitsOf_61 rfl (lv_at hl 1 rfl) ?_
                  refine lv_fconst1 hx hb dX7_bitsOf_62 ?_
                  refine lv_fcmp hx hb dX7_bitsOf_63 ?_
                  refine lv_if_ge (tgt := 80) hx hb dX7_bitsOf_64 (by decide) (fun c6 => ?_) (fun c6 => ?_)
                  · refine lv_fload_n hx hb dX7_bitsOf_80 rfl (lv_at hl 1 rfl) ?_
                    refine lv_fconst1 hx hb dX7_bitsOf_81 ?_
                    refine lv_fsub hx hb dX7_bitsOf_82 (nn32 (fs1 hn2)) ?_
                    refine lw_ldcwF hx hb hf.2.2.2.1 (hf.2.2.2.2 _ q848) dX7_bitsOf_83 ?_
                    refine lv_fmul hx hb dX7_bitsOf_86 (nn32 (fx8 (fs1 hn2))) ?_
                    refine lv_f2i hx hb dX7_bitsOf_87 ?_
                    refine lv_istore_n (lv' := [(3, .int (FP.f2i (FP.fmul (FP.fsub w2 FP.fconst1) ((1258291200 : UInt32))))), (0, .float (v)), (1, .float (w2)), (2, .int (ex2))]) hx hb dX7_bitsOf_88 rfl hl (by decide) rfl (fun ls hl => ?_)
                    refine lv_fload_n hx hb dX7_bitsOf_89 rfl (lv_at hl 1 rfl) ?_
                    refine lv_fconst0 hx hb dX7_bitsOf_90 ?_
                    refine lv_fcmp hx hb dX7_bitsOf_91 ?_
                    refine lv_if_ge (tgt := 101) hx hb dX7_bitsOf_92 (by decide) (fun c7 => ?_) (fun c7 => ?_)
                    · refine lv_iconst (v := 0) hx hb dX7_bitsOf_101 (by decide) ?_
                      refine lv_istore (lv' := [(4, .int 0), (3, .int (FP.f2i (FP.fmul (FP.fsub w2 FP.fconst1) ((1258291200 : UInt32))))), (0, .float (v)), (1, .float (w2)), (2, .int (ex2))]) hx hb dX7_bitsOf_102 hl (by decide) rfl (fun ls hl => ?_)
                      refine lv_iload hx hb dX7_bitsOf_104 (lv_at hl 0 rfl) ?_
                      refine lv_iload_n hx hb dX7_bitsOf_106 rfl (lv_at hl 4 rfl) ?_
                      refine lv_bipush (v := 23) hx hb dX7_bitsOf_107 (by decide) ?_
                      refine lv_ishl hx hb dX7_bitsOf_109 ?_
                      refine lv_ior hx hb dX7_bitsOf_110 ?_
                      refine lv_iload_n hx hb dX7_bitsOf_111 rfl (lv_at hl 1 rfl) ?_
                      refine lv_ior hx hb dX7_bitsOf_112 ?_
                      exact e_i hf hr hlocks hw rfl (congrArg (fun z => (z, μ)) ((hq).trans ((if_neg c4).trans ((if_pos c6).trans ((if_pos c7).trans rfl))))) dX7_bitsOf_113
                    · refine lv_ldcw hx hb hf.2.2.2.1 (hf.2.2.2.2 _ q849) dX7_bitsOf_95 ?_
                      refine lv_goto (tgt := 102) hx hb dX7_bitsOf_98 (by decide) ?_
                      refine lv_istore (lv' := [(4, .int (-2147483648)), (3, .int (FP.f2i (FP.fmul (FP.fsub w2 FP.fconst1) ((1258291200 : UInt32))))), (0, .float (v)), (1, .float (w2)), (2, .int (ex2))]) hx hb dX7_bitsOf_102 hl (by decide) rfl (fun ls hl => ?_)
                      refine lv_iload hx hb dX7_bitsOf_104 (lv_at hl 0 rfl) ?_
                      refine lv_iload_n hx hb dX7_bitsOf_106 rfl (lv_at hl 4 rfl) ?_
                      refine lv_bipush (v := 23) hx hb dX7_bitsOf_107 (by decide) ?_
                      refine lv_ishl hx hb dX7_bitsOf_109 ?_
                      refine lv_ior hx hb dX7_bitsOf_110 ?_
                      refine lv_iload_n hx hb dX7_bitsOf_111 rfl (lv_at hl 1 rfl) ?_
                      refine lv_ior hx hb dX7_bitsOf_112 ?_
                      exact e_i hf hr hlocks hw rfl (congrArg (fun z => (z, μ)) ((hq).trans ((if_neg c4).trans ((if_pos c6).trans ((if_neg c7).trans rfl))))) dX7_bitsOf_113
                  · refine lv_fload_n hx hb dX7_bitsOf_67 rfl (lv_at hl 1 rfl) ?_
                    refine lv_fconst2 hx hb dX7_bitsOf_68 ?_
                    refine lv_fmul hx hb dX7_bitsOf_69 (nn32 (fd hn2)) ?_
                    refine lv_fstore_n (lv' := [(1, .float (FP.fmul w2 FP.fconst2)), (0, .float (v)), (2, .int (ex2)), (3, .int (nI k2))]) hx hb dX7_bitsOf_70 rfl hl (by decide) rfl (fun ls hl => ?_)
                    refine lv_iinc (v := ex2 + (-1)) (lv' := [(2, .int (ex2 + (-1))), (1, .float (FP.fmul w2 FP.fconst2)), (0, .float (v)), (3, .int (nI k2))]) hx hb dX7_bitsOf_71 hl (k := 2) rfl rfl (by decide) rfl (fun ls hl => ?_)
                    refine lv_iinc (v := nI (k2 + 1)) (lv' := [(3, .int (nI (k2 + 1))), (2, .int (ex2 + (-1))), (1, .float (FP.fmul w2 FP.fconst2)), (0, .float (v))]) hx hb dX7_bitsOf_74 hl (k := 3) rfl (nI_1 _) (by decide) rfl (fun ls hl => ?_)
                    refine lv_goto (tgt := 54) hx hb dX7_bitsOf_77 (by decide) ?_
                    exact ih (FP.fmul w2 FP.fconst2) (ex2 + (-1)) (k2 + 1) (by omega) (by omega) (fd hn2) (((hq).trans ((if_neg c4).trans ((if_neg c6).trans rfl)))) _ _ _ (lv_sub hl [3, 2, 1, 0] rfl) hw
            exact key_54 151 w ex 0 (by omega) (by omega) hn1 (((hq).trans ((if_pos c3).trans rfl))) _ _ _ (lv_sub hl [1, 2, 3, 0] rfl) hw
          · have c3n : ¬ 150 ≤ k := by have q := (nI_leI (a := 150) (b := k) (by omega) (by omega)); first | exact q.mp c3 | exact fun z => c3 (q.mpr z)
            refine lv_fload_n hx hb dX7_bitsOf_33 rfl (lv_at hl 1 rfl) ?_
            refine lv_fconst2 hx hb dX7_bitsOf_34 ?_
            refine lv_fcmp hx hb dX7_bitsOf_35 ?_
            refine lv_if_lt (tgt := 52) hx hb dX7_bitsOf_36 (by decide) (fun c8 => ?_) (fun c8 => ?_)
            · refine lv_iconst (v := 0) hx hb dX7_bitsOf_52 (by decide) ?_
              refine lv_istore_n (lv' := [(3, .int 0), (0, .float (v)), (1, .float (w)), (2, .int (ex))]) hx hb dX7_bitsOf_53 rfl hl (by decide) rfl (fun ls hl => ?_)
              have key_54 : ∀ (f : Nat) (w2 : UInt32) (ex2 : Int32) (k2 : Nat), k2 + f = 151 → k2 ≤ 150 → FP.Core.fIsNaN w2 = false → sp_X7_bitsOf  v = lp_X7_bitsOf_54  v f w2 ex2 k2 → ∀ (ls : Array Slot) (H : Heap) (locs : List Loc), lv_has ls 5 [(0, .float (v)), (1, .float (w2)), (2, .int (ex2)), (3, .int (nI k2))] → Wk E μ s H locs → W p l e ({ frames := 0, cells := 0, slots := 0, locals := 0 }) s m args below meth c H locs 0 0 (MQ below (va_Qi (fun r u => r = ((sp_X7_bitsOf  v, μ)).1 ∧ u = ((sp_X7_bitsOf  v, μ)).2) (fun u t => WdU E u t) (inE E)) args s 0 0 (inE E)) (F0 m 54 ls []) := by
                intro f
                induction f with
                | zero => intro w2 ex2 k2 h1 h2 hn2 hq ls H locs hl hw; exfalso; omega
                | succ f ih =>
                  intro w2 ex2 k2 h1 h2 hn2 hq ls H locs hl hw
                  refine lv_iload_n hx hb dX7_bitsOf_54 rfl (lv_at hl 3 rfl) ?_
                  refine lv_sipush (v := 150) hx hb dX7_bitsOf_55 (by decide) ?_
                  refine lv_icmp_ge (tgt := 80) hx hb dX7_bitsOf_58 (by decide) (fun c9 => ?_) (fun c9 => ?_)
                  · have c9n : 150 ≤ k2 := by have q := (nI_leI (a := 150) (b := k2) (by omega) (by omega)); first | exact q.mp c9 | exact fun z => c9 (q.mpr z)
                    refine lv_fload_n hx hb dX7_bitsOf_80 rfl (lv_at hl 1 rfl) ?_
                    refine lv_fconst1 hx hb dX7_bitsOf_81 ?_
                    refine lv_fsub hx hb dX7_bitsOf_82 (nn32 (fs1 hn2)) ?_
                    refine lw_ldcwF hx hb hf.2.2.2.1 (hf.2.2.2.2 _ q848) dX7_bitsOf_83 ?_
                    refine lv_fmul hx hb dX7_bitsOf_86 (nn32 (fx8 (fs1 hn2))) ?_
                    refine lv_f2i hx hb dX7_bitsOf_87 ?_
                    refine lv_istore_n (lv' := [(3, .int (FP.f2i (FP.fmul (FP.fsub w2 FP.fconst1) ((1258291200 : UInt32))))), (0, .float (v)), (1, .float (w2)), (2, .int (ex2))]) hx hb dX7_bitsOf_88 rfl hl (by decide) rfl (fun ls hl => ?_)
                    refine lv_fload_n hx hb dX7_bitsOf_89 rfl (lv_at hl 1 rfl) ?_
                    refine lv_fconst0 hx hb dX7_bitsOf_90 ?_
                    refine lv_fcmp hx hb dX7_bitsOf_91 ?_
                    refine lv_if_ge (tgt := 101) hx hb dX7_bitsOf_92 (by decide) (fun c10 => ?_) (fun c10 => ?_)
                    · refine lv_iconst (v := 0) hx hb dX7_bitsOf_101 (by decide) ?_
                      refine lv_istore (lv' := [(4, .int 0), (3, .int (FP.f2i (FP.fmul (FP.fsub w2 FP.fconst1) ((1258291200 : UInt32))))), (0, .float (v)), (1, .float (w2)), (2, .int (ex2))]) hx hb dX7_bitsOf_102 hl (by decide) rfl (fun ls hl => ?_)
                      refine lv_iload hx hb dX7_bitsOf_104 (lv_at hl 0 rfl) ?_
                      refine lv_iload_n hx hb dX7_bitsOf_106 rfl (lv_at hl 4 rfl) ?_
                      refine lv_bipush (v := 23) hx hb dX7_bitsOf_107 (by decide) ?_
                      refine lv_ishl hx hb dX7_bitsOf_109 ?_
                      refine lv_ior hx hb dX7_bitsOf_110 ?_
                      refine lv_iload_n hx hb dX7_bitsOf_111 rfl (lv_at hl 1 rfl) ?_
                      refine lv_ior hx hb dX7_bitsOf_112 ?_
                      exact e_i hf hr hlocks hw rfl (congrArg (fun z => (z, μ)) ((hq).trans ((if_pos c9).trans ((if_pos c10).trans rfl)))) dX7_bitsOf_113
                    · refine lv_ldcw hx hb hf.2.2.2.1 (hf.2.2.2.2 _ q849) dX7_bitsOf_95 ?_
                      refine lv_goto (tgt := 102) hx hb dX7_bitsOf_98 (by decide) ?_
                      refine lv_istore (lv' := [(4, .int (-2147483648)), (3, .int (FP.f2i (FP.fmul (FP.fsub w2 FP.fconst1) ((1258291200 : UInt32))))), (0, .float (v)), (1, .float (w2)), (2, .int (ex2))]) hx hb dX7_bitsOf_102 hl (by decide) rfl (fun ls hl => ?_)
                      refine lv_iload hx hb dX7_bitsOf_104 (lv_at hl 0 rfl) ?_
                      refine lv_iload_n hx hb dX7_bitsOf_106 rfl (lv_at hl 4 rfl) ?_
                      refine lv_bipush (v := 23) hx hb dX7_bitsOf_107 (by decide) ?_
                      refine lv_ishl hx hb dX7_bitsOf_109 ?_
                      refine lv_ior hx hb dX7_bitsOf_110 ?_
                      refine lv_iload_n hx hb dX7_bitsOf_111 rfl (lv_at hl 1 rfl) ?_
                      refine lv_ior hx hb dX7_bitsOf_112 ?_
                      exact e_i hf hr hlocks hw rfl (congrArg (fun z => (z, μ)) ((hq).trans ((if_pos c9).trans ((if_neg c10).trans rfl)))) dX7_bitsOf_113
                  · have c9n : ¬ 150 ≤ k2 := by have q := (nI_leI (a := 150) (b := k2) (by omega) (by omega)); first | exact q.mp c9 | exact fun z => c9 (q.mpr z)
                    refine lv_fload_n hx hb dX7_bitsOf_61 rfl (lv_at hl 1 rfl) ?_
                    refine lv_fconst1 hx hb dX7_bitsOf_62 ?_
                    refine lv_fcmp hx hb dX7_bitsOf_63 ?_
                    refine lv_if_ge (tgt := 80) hx hb dX7_bitsOf_64 (by decide) (fun c11 => ?_) (fun c11 => ?_)
                    · refine lv_fload_n hx hb dX7_bitsOf_80 rfl (lv_at hl 1 rfl) ?_
                      refine lv_fconst1 hx hb dX7_bitsOf_81 ?_
                      refine lv_fsub hx hb dX7_bitsOf_82 (nn32 (fs1 hn2)) ?_
                      refine lw_ldcwF hx hb hf.2.2.2.1 (hf.2.2.2.2 _ q848) dX7_bitsOf_83 ?_
                      refine lv_fmul hx hb dX7_bitsOf_86 (nn32 (fx8 (fs1 hn2))) ?_
                      refine lv_f2i hx hb dX7_bitsOf_87 ?_
                      refine lv_istore_n (lv' := [(3, .int (FP.f2i (FP.fmul (FP.fsub w2 FP.fconst1) ((1258291200 : UInt32))))), (0, .float (v)), (1, .float (w2)), (2, .int (ex2))]) hx hb dX7_bitsOf_88 rfl hl (by decide) rfl (fun ls hl => ?_)
                      refine lv_fload_n hx hb dX7_bitsOf_89 rfl (lv_at hl 1 rfl) ?_
                      refine lv_fconst0 hx hb dX7_bitsOf_90 ?_
                      refine lv_fcmp hx hb dX7_bitsOf_91 ?_
                      refine lv_if_ge (tgt := 101) hx hb dX7_bitsOf_92 (by decide) (fun c12 => ?_) (fun c12 => ?_)
                      · refine lv_iconst (v := 0) hx hb dX7_bitsOf_101 (by decide) ?_
                        refine lv_istore (lv' := [(4, .int 0), (3, .int (FP.f2i (FP.fmul (FP.fsub w2 FP.fconst1) ((1258291200 : UInt32))))), (0, .float (v)), (1, .float (w2)), (2, .int (ex2))]) hx hb dX7_bitsOf_102 hl (by decide) rfl (fun ls hl => ?_)
                        refine lv_iload hx hb dX7_bitsOf_104 (lv_at hl 0 rfl) ?_
                        refine lv_iload_n hx hb dX7_bitsOf_106 rfl (lv_at hl 4 rfl) ?_
                        refine lv_bipush (v := 23) hx hb dX7_bitsOf_107 (by decide) ?_
                        refine lv_ishl hx hb dX7_bitsOf_109 ?_
                        refine lv_ior hx hb dX7_bitsOf_110 ?_
                        refine lv_iload_n hx hb dX7_bitsOf_111 rfl (lv_at hl 1 rfl) ?_
                        refine lv_ior hx hb dX7_bitsOf_112 ?_
                        exact e_i hf hr hlocks hw rfl (congrArg (fun z => (z, μ)) ((hq).trans ((if_neg c9).trans ((if_pos c11).trans ((if_pos c12).trans rfl))))) dX7_bitsOf_113
                      · refine lv_ldcw hx hb hf.2.2.2.1 (hf.2.2.2.2 _ q849) dX7_bitsOf_95 ?_
                        refine lv_goto (tgt := 102) hx hb dX7_bitsOf_98 (by decide) ?_
                        refine lv_istore (lv' := [(4, .int (-2147483648)), (3, .int (FP.f2i (FP.fmul (FP.fsub w2 FP.fconst1) ((1258291200 : UInt32))))), (0, .float (v)), (1, .float (w2)), (2, .int (ex2))]) hx hb dX7_bitsOf_102 hl (by decide) rfl (fun ls hl => ?_)
                        refine lv_iload hx hb dX7_bitsOf_104 (lv_at hl 0 rfl) ?_
                        refine lv_iload_n hx hb dX7_bitsOf_106 rfl (lv_at hl 4 rfl) ?_
                        refine lv_bipush (v := 23) hx hb dX7_bitsOf_107 (by decide) ?_
                        refine lv_ishl hx hb dX7_bitsOf_109 ?_
                        refine lv_ior hx hb dX7_bitsOf_110 ?_
                        refine lv_iload_n hx hb dX7_bitsOf_111 rfl (lv_at hl 1 rfl) ?_
                        refine lv_ior hx hb dX7_bitsOf_112 ?_
                        exact e_i hf hr hlocks hw rfl (congrArg (fun z => (z, μ)) ((hq).trans ((if_neg c9).trans ((if_pos c11).trans ((if_neg c12).trans rfl))))) dX7_bitsOf_113
                    · refine lv_fload_n hx hb dX7_bitsOf_67 rfl (lv_at hl 1 rfl) ?_
                      refine lv_fconst2 hx hb dX7_bitsOf_68 ?_
                      refine lv_fmul hx hb dX7_bitsOf_69 (nn32 (fd hn2)) ?_
                      refine lv_fstore_n (lv' := [(1, .float (FP.fmul w2 FP.fconst2)), (0, .float (v)), (2, .int (ex2)), (3, .int (nI k2))]) hx hb dX7_bitsOf_70 rfl hl (by decide) rfl (fun ls hl => ?_)
                      refine lv_iinc (v := ex2 + (-1)) (lv' := [(2, .int (ex2 + (-1))), (1, .float (FP.fmul w2 FP.fconst2)), (0, .float (v)), (3, .int (nI k2))]) hx hb dX7_bitsOf_71 hl (k := 2) rfl rfl (by decide) rfl (fun ls hl => ?_)
                      refine lv_iinc (v := nI (k2 + 1)) (lv' := [(3, .int (nI (k2 + 1))), (2, .int (ex2 + (-1))), (1, .float (FP.fmul w2 FP.fconst2)), (0, .float (v))]) hx hb dX7_bitsOf_74 hl (k := 3) rfl (nI_1 _) (by decide) rfl (fun ls hl => ?_)
                      refine lv_goto (tgt := 54) hx hb dX7_bitsOf_77 (by decide) ?_
                      exact ih (FP.fmul w2 FP.fconst2) (ex2 + (-1)) (k2 + 1) (by omega) (by omega) (fd hn2) (((hq).trans ((if_neg c9).trans ((if_neg c11).trans rfl)))) _ _ _ (lv_sub hl [3, 2, 1, 0] rfl) hw
              exact key_54 151 w ex 0 (by omega) (by omega) hn1 (((hq).trans ((if_neg c3).trans ((if_pos c8).trans rfl)))) _ _ _ (lv_sub hl [1, 2, 3, 0] rfl) hw
            · refine lv_fload_n hx hb dX7_bitsOf_39 rfl (lv_at hl 1 rfl) ?_
              refine lv_fconst2 hx hb dX7_bitsOf_40 ?_
              refine lv_fdiv hx hb dX7_bitsOf_41 (nn32 (fh hn1)) ?_
              refine lv_fstore_n (lv' := [(1, .float (FP.fdiv w FP.fconst2)), (0, .float (v)), (2, .int (ex)), (3, .int (nI k))]) hx hb dX7_bitsOf_42 rfl hl (by decide) rfl (fun ls hl => ?_)
              refine lv_iinc (v := ex + 1) (lv' := [(2, .int (ex + 1)), (1, .float (FP.fdiv w FP.fconst2)), (0, .float (v)), (3, .int (nI k))]) hx hb dX7_bitsOf_43 hl (k := 2) rfl rfl (by decide) rfl (fun ls hl => ?_)
              refine lv_iinc (v := nI (k + 1)) (lv' := [(3, .int (nI (k + 1))), (2, .int (ex + 1)), (1, .float (FP.fdiv w FP.fconst2)), (0, .float (v))]) hx hb dX7_bitsOf_46 hl (k := 3) rfl (nI_1 _) (by decide) rfl (fun ls hl => ?_)
              refine lv_goto (tgt := 26) hx hb dX7_bitsOf_49 (by decide) ?_
              exact ih (FP.fdiv w FP.fconst2) (ex + 1) (k + 1) (by omega) (by omega) (fh hn1) (((hq).trans ((if_neg c3).trans ((if_neg c8).trans rfl)))) _ _ _ (lv_sub hl [3, 2, 1, 0] rfl) hw
      exact key_26 151 v (127 : Int32) 0 (by omega) (by omega) (by first | exact hnv | exact fng hnv) (((if_neg c1).trans ((if_pos c2).trans rfl))) _ _ _ (lv_sub hl [3, 2, 1, 0] rfl) hw
    · refine lv_fload_n hx hb dX7_bitsOf_14 rfl (lv_at hl 0 rfl) ?_
      refine lv_fneg hx hb dX7_bitsOf_15 ?_
      refine lv_goto (tgt := 20) hx hb dX7_bitsOf_16 (by decide) ?_
      refine lv_fstore_n (lv' := [(1, .float (FP.fneg v)), (0, .float (v))]) hx hb dX7_bitsOf_20 rfl hl (by decide) rfl (fun ls hl => ?_)
      refine lv_bipush (v := 127) hx hb dX7_bitsOf_21 (by decide) ?_
      refine lv_istore_n (lv' := [(2, .int 127), (1, .float (FP.fneg v)), (0, .float (v))]) hx hb dX7_bitsOf_23 rfl hl (by decide) rfl (fun ls hl => ?_)
      refine lv_iconst (v := 0) hx hb dX7_bitsOf_24 (by decide) ?_
      refine lv_istore_n (lv' := [(3, .int 0), (2, .int 127), (1, .float (FP.fneg v)), (0, .float (v))]) hx hb dX7_bitsOf_25 rfl hl (by decide) rfl (fun ls hl => ?_)
      have key_26 : ∀ (f : Nat) (w : UInt32) (ex : Int32) (k : Nat), k + f = 151 → k ≤ 150 → FP.Core.fIsNaN w = false → sp_X7_bitsOf  v = lp_X7_bitsOf_26  v f w ex k → ∀ (ls : Array Slot) (H : Heap) (locs : List Loc), lv_has ls 5 [(0, .float (v)), (1, .float (w)), (2, .int (ex)), (3, .int (nI k))] → Wk E μ s H locs → W p l e ({ frames := 0, cells := 0, slots := 0, locals := 0 }) s m args below meth c H locs 0 0 (MQ below (va_Qi (fun r u => r = ((sp_X7_bitsOf  v, μ)).1 ∧ u = ((sp_X7_bitsOf  v, μ)).2) (fun u t => WdU E u t) (inE E)) args s 0 0 (inE E)) (F0 m 26 ls []) := by
        intro f
        induction f with
        | zero => intro w ex k h1 h2 hn1 hq ls H locs hl hw; exfalso; omega
        | succ f ih =>
          intro w ex k h1 h2 hn1 hq ls H locs hl hw
          refine lv_iload_n hx hb dX7_bitsOf_26 rfl (lv_at hl 3 rfl) ?_
          refine lv_sipush (v := 150) hx hb dX7_bitsOf_27 (by decide) ?_
          refine lv_icmp_ge (tgt := 52) hx hb dX7_bitsOf_30 (by decide) (fun c13 => ?_) (fun c13 => ?_)
          · have c13n : 150 ≤ k := by have q := (nI_leI (a := 150) (b := k) (by omega) (by omega)); first | exact q.mp c13 | exact fun z => c13 (q.mpr z)
            refine lv_iconst (v := 0) hx hb dX7_bitsOf_52 (by decide) ?_
            refine lv_istore_n (lv' := [(3, .int 0), (0, .float (v)), (1, .float (w)), (2, .int (ex))]) hx hb dX7_bitsOf_53 rfl hl (by decide) rfl (fun ls hl => ?_)
            have key_54 : ∀ (f : Nat) (w2 : UInt32) (ex2 : Int32) (k2 : Nat), k2 + f = 151 → k2 ≤ 150 → FP.Core.fIsNaN w2 = false → sp_X7_bitsOf  v = lp_X7_bitsOf_54  v f w2 ex2 k2 → ∀ (ls : Array Slot) (H : Heap) (locs : List Loc), lv_has ls 5 [(0, .float (v)), (1, .float (w2)), (2, .int (ex2)), (3, .int (nI k2))] → Wk E μ s H locs → W p l e ({ frames := 0, cells := 0, slots := 0, locals := 0 }) s m args below meth c H locs 0 0 (MQ below (va_Qi (fun r u => r = ((sp_X7_bitsOf  v, μ)).1 ∧ u = ((sp_X7_bitsOf  v, μ)).2) (fun u t => WdU E u t) (inE E)) args s 0 0 (inE E)) (F0 m 54 ls []) := by
              intro f
              induction f with
              | zero => intro w2 ex2 k2 h1 h2 hn2 hq ls H locs hl hw; exfalso; omega
              | succ f ih =>
                intro w2 ex2 k2 h1 h2 hn2 hq ls H locs hl hw
                refine lv_iload_n hx hb dX7_bitsOf_54 rfl (lv_at hl 3 rfl) ?_
                refine lv_sipush (v := 150) hx hb dX7_bitsOf_55 (by decide) ?_
                refine lv_icmp_ge (tgt := 80) hx hb dX7_bitsOf_58 (by decide) (fun c14 => ?_) (fun c14 => ?_)
                · have c14n : 150 ≤ k2 := by have q := (nI_leI (a := 150) (b := k2) (by omega) (by omega)); first | exact q.mp c14 | exact fun z => c14 (q.mpr z)
                  refine lv_fload_n hx hb dX7_bitsOf_80 rfl (lv_at hl 1 rfl) ?_
                  refine lv_fconst1 hx hb dX7_bitsOf_81 ?_
                  refine lv_fsub hx hb dX7_bitsOf_82 (nn32 (fs1 hn2)) ?_
                  refine lw_ldcwF hx hb hf.2.2.2.1 (hf.2.2.2.2 _ q848) dX7_bitsOf_83 ?_
                  refine lv_fmul hx hb dX7_bitsOf_86 (nn32 (fx8 (fs1 hn2))) ?_
                  refine lv_f2i hx hb dX7_bitsOf_87 ?_
                  refine lv_istore_n (lv' := [(3, .int (FP.f2i (FP.fmul (FP.fsub w2 FP.fconst1) ((1258291200 : UInt32))))), (0, .float (v)), (1, .float (w2)), (2, .int (ex2))]) hx hb dX7_bitsOf_88 rfl hl (by decide) rfl (fun ls hl => ?_)
                  refine lv_fload_n hx hb dX7_bitsOf_89 rfl (lv_at hl 1 rfl) ?_
                  refine lv_fconst0 hx hb dX7_bitsOf_90 ?_
                  refine lv_fcmp hx hb dX7_bitsOf_91 ?_
                  refine lv_if_ge (tgt := 101) hx hb dX7_bitsOf_92 (by decide) (fun c15 => ?_) (fun c15 => ?_)
                  · refine lv_iconst (v := 0) hx hb dX7_bitsOf_101 (by decide) ?_
                    refine lv_istore (lv' := [(4, .int 0), (3, .int (FP.f2i (FP.fmul (FP.fsub w2 FP.fconst1) ((1258291200 : UInt32))))), (0, .float (v)), (1, .float (w2)), (2, .int (ex2))]) hx hb dX7_bitsOf_102 hl (by decide) rfl (fun ls hl => ?_)
                    refine lv_iload hx hb dX7_bitsOf_104 (lv_at hl 0 rfl) ?_
                    refine lv_iload_n hx hb dX7_bitsOf_106 rfl (lv_at hl 4 rfl) ?_
                    refine lv_bipush (v := 23) hx hb dX7_bitsOf_107 (by decide) ?_
                    refine lv_ishl hx hb dX7_bitsOf_109 ?_
                    refine lv_ior hx hb dX7_bitsOf_110 ?_
                    refine lv_iload_n hx hb dX7_bitsOf_111 rfl (lv_at hl 1 rfl) ?_
                    refine lv_ior hx hb dX7_bitsOf_112 ?_
                    exact e_i hf hr hlocks hw rfl (congrArg (fun z => (z, μ)) ((hq).trans ((if_pos c14).trans ((if_pos c15).trans rfl)))) dX7_bitsOf_113
                  · refine lv_ldcw hx hb hf.2.2.2.1 (hf.2.2.2.2 _ q849) dX7_bitsOf_95 ?_
                    refine lv_goto (tgt := 102) hx hb dX7_bitsOf_98 (by decide) ?_
                    refine lv_istore (lv' := [(4, .int (-2147483648)), (3, .int (FP.f2i (FP.fmul (FP.fsub w2 FP.fconst1) ((1258291200 : UInt32))))), (0, .float (v)), (1, .float (w2)), (2, .int (ex2))]) hx hb dX7_bitsOf_102 hl (by decide) rfl (fun ls hl => ?_)
                    refine lv_iload hx hb dX7_bitsOf_104 (lv_at hl 0 rfl) ?_
                    refine lv_iload_n hx hb dX7_bitsOf_106 rfl (lv_at hl 4 rfl) ?_
                    refine lv_bipush (v := 23) hx hb dX7_bitsOf_107 (by decide) ?_
                    refine lv_ishl hx hb dX7_bitsOf_109 ?_
                    refine lv_ior hx hb dX7_bitsOf_110 ?_
                    refine lv_iload_n hx hb dX7_bitsOf_111 rfl (lv_at hl 1 rfl) ?_
                    refine lv_ior hx hb dX7_bitsOf_112 ?_
                    exact e_i hf hr hlocks hw rfl (congrArg (fun z => (z, μ)) ((hq).trans ((if_pos c14).trans ((if_neg c15).trans rfl)))) dX7_bitsOf_113
                · have c14n : ¬ 150 ≤ k2 := by have q := (nI_leI (a := 150) (b := k2) (by omega) (by omega)); first | exact q.mp c14 | exact fun z => c14 (q.mpr z)
                  refine lv_fload_n hx hb dX7_bitsOf_61 rfl (lv_at hl 1 rfl) ?_
                  refine lv_fconst1 hx hb dX7_bitsOf_62 ?_
                  refine lv_fcmp hx hb dX7_bitsOf_63 ?_
                  refine lv_if_ge (tgt := 80) hx hb dX7_bitsOf_64 (by decide) (fun c16 => ?_) (fun c16 => ?_)
                  · refine lv_fload_n hx hb dX7_bitsOf_80 rfl (lv_at hl 1 rfl) ?_
                    refine lv_fconst1 hx hb dX7_bitsOf_81 ?_
                    refine lv_fsub hx hb dX7_bitsOf_82 (nn32 (fs1 hn2)) ?_
                    refine lw_ldcwF hx hb hf.2.2.2.1 (hf.2.2.2.2 _ q848) dX7_bitsOf_83 ?_
                    refine lv_fmul hx hb dX7_bitsOf_86 (nn32 (fx8 (fs1 hn2))) ?_
                    refine lv_f2i hx hb dX7_bitsOf_87 ?_
                    refine lv_istore_n (lv' := [(3, .int (FP.f2i (FP.fmul (FP.fsub w2 FP.fconst1) ((1258291200 : UInt32))))), (0, .float (v)), (1, .float (w2)), (2, .int (ex2))]) hx hb dX7_bitsOf_88 rfl hl (by decide) rfl (fun ls hl => ?_)
                    refine lv_fload_n hx hb dX7_bitsOf_89 rfl (lv_at hl 1 rfl) ?_
                    refine lv_fconst0 hx hb dX7_bitsOf_90 ?_
                    refine lv_fcmp hx hb dX7_bitsOf_91 ?_
                    refine lv_if_ge (tgt := 101) hx hb dX7_bitsOf_92 (by decide) (fun c17 => ?_) (fun c17 => ?_)
                    · refine lv_iconst (v := 0) hx hb dX7_bitsOf_101 (by decide) ?_
                      refine lv_istore (lv' := [(4, .int 0), (3, .int (FP.f2i (FP.fmul (FP.fsub w2 FP.fconst1) ((1258291200 : UInt32))))), (0, .float (v)), (1, .float (w2)), (2, .int (ex2))]) hx hb dX7_bitsOf_102 hl (by decide) rfl (fun ls hl => ?_)
                      refine lv_iload hx hb dX7_bitsOf_104 (lv_at hl 0 rfl) ?_
                      refine lv_iload_n hx hb dX7_bitsOf_106 rfl (lv_at hl 4 rfl) ?_
                      refine lv_bipush (v := 23) hx hb dX7_bitsOf_107 (by decide) ?_
                      refine lv_ishl hx hb dX7_bitsOf_109 ?_
                      refine lv_ior hx hb dX7_bitsOf_110 ?_
                      refine lv_iload_n hx hb dX7_bitsOf_111 rfl (lv_at hl 1 rfl) ?_
                      refine lv_ior hx hb dX7_bitsOf_112 ?_
                      exact e_i hf hr hlocks hw rfl (congrArg (fun z => (z, μ)) ((hq).trans ((if_neg c14).trans ((if_pos c16).trans ((if_pos c17).trans rfl))))) dX7_bitsOf_113
                    · refine lv_ldcw hx hb hf.2.2.2.1 (hf.2.2.2.2 _ q849) dX7_bitsOf_95 ?_
                      refine lv_goto (tgt := 102) hx hb dX7_bitsOf_98 (by decide) ?_
                      refine lv_istore (lv' := [(4, .int (-2147483648)), (3, .int (FP.f2i (FP.fmul (FP.fsub w2 FP.fconst1) ((1258291200 : UInt32))))), (0, .float (v)), (1, .float (w2)), (2, .int (ex2))]) hx hb dX7_bitsOf_102 hl (by decide) rfl (fun ls hl => ?_)
                      refine lv_iload hx hb dX7_bitsOf_104 (lv_at hl 0 rfl) ?_
                      refine lv_iload_n hx hb dX7_bitsOf_106 rfl (lv_at hl 4 rfl) ?_
                      refine lv_bipush (v := 23) hx hb dX7_bitsOf_107 (by decide) ?_
                      refine lv_ishl hx hb dX7_bitsOf_109 ?_
                      refine lv_ior hx hb dX7_bitsOf_110 ?_
                      refine lv_iload_n hx hb dX7_bitsOf_111 rfl (lv_at hl 1 rfl) ?_
                      refine lv_ior hx hb dX7_bitsOf_112 ?_
                      exact e_i hf hr hlocks hw rfl (congrArg (fun z => (z, μ)) ((hq).trans ((if_neg c14).trans ((if_pos c16).trans ((if_neg c17).trans rfl))))) dX7_bitsOf_113
                  · refine lv_fload_n hx hb dX7_bitsOf_67 rfl (lv_at hl 1 rfl) ?_
                    refine lv_fconst2 hx hb dX7_bitsOf_68 ?_
                    refine lv_fmul hx hb dX7_bitsOf_69 (nn32 (fd hn2)) ?_
                    refine lv_fstore_n (lv' := [(1, .float (FP.fmul w2 FP.fconst2)), (0, .float (v)), (2, .int (ex2)), (3, .int (nI k2))]) hx hb dX7_bitsOf_70 rfl hl (by decide) rfl (fun ls hl => ?_)
                    refine lv_iinc (v := ex2 + (-1)) (lv' := [(2, .int (ex2 + (-1))), (1, .float (FP.fmul w2 FP.fconst2)), (0, .float (v)), (3, .int (nI k2))]) hx hb dX7_bitsOf_71 hl (k := 2) rfl rfl (by decide) rfl (fun ls hl => ?_)
                    refine lv_iinc (v := nI (k2 + 1)) (lv' := [(3, .int (nI (k2 + 1))), (2, .int (ex2 + (-1))), (1, .float (FP.fmul w2 FP.fconst2)), (0, .float (v))]) hx hb dX7_bitsOf_74 hl (k := 3) rfl (nI_1 _) (by decide) rfl (fun ls hl => ?_)
                    refine lv_goto (tgt := 54) hx hb dX7_bitsOf_77 (by decide) ?_
                    exact ih (FP.fmul w2 FP.fconst2) (ex2 + (-1)) (k2 + 1) (by omega) (by omega) (fd hn2) (((hq).trans ((if_neg c14).trans ((if_neg c16).trans rfl)))) _ _ _ (lv_sub hl [3, 2, 1, 0] rfl) hw
            exact key_54 151 w ex 0 (by omega) (by omega) hn1 (((hq).trans ((if_pos c13).trans rfl))) _ _ _ (lv_sub hl [1, 2, 3, 0] rfl) hw
          · have c13n : ¬ 150 ≤ k := by have q := (nI_leI (a := 150) (b := k) (by omega) (by omega)); first | exact q.mp c13 | exact fun z => c13 (q.mpr z)
            refine lv_fload_n hx hb dX7_bitsOf_33 rfl (lv_at hl 1 rfl) ?_
            refine lv_fconst2 hx hb dX7_bitsOf_34 ?_
            refine lv_fcmp hx hb dX7_bitsOf_35 ?_
            refine lv_if_lt (tgt := 52) hx hb dX7_bitsOf_36 (by decide) (fun c18 => ?_) (fun c18 => ?_)
            · refine lv_iconst (v := 0) hx hb dX7_bitsOf_52 (by decide) ?_
              refine lv_istore_n (lv' := [(3, .int 0), (0, .float (v)), (1, .float (w)), (2, .int (ex))]) hx hb dX7_bitsOf_53 rfl hl (by decide) rfl (fun ls hl => ?_)
              have key_54 : ∀ (f : Nat) (w2 : UInt32) (ex2 : Int32) (k2 : Nat), k2 + f = 151 → k2 ≤ 150 → FP.Core.fIsNaN w2 = false → sp_X7_bitsOf  v = lp_X7_bitsOf_54  v f w2 ex2 k2 → ∀ (ls : Array Slot) (H : Heap) (locs : List Loc), lv_has ls 5 [(0, .float (v)), (1, .float (w2)), (2, .int (ex2)), (3, .int (nI k2))] → Wk E μ s H locs → W p l e ({ frames := 0, cells := 0, slots := 0, locals := 0 }) s m args below meth c H locs 0 0 (MQ below (va_Qi (fun r u => r = ((sp_X7_bitsOf  v, μ)).1 ∧ u = ((sp_X7_bitsOf  v, μ)).2) (fun u t => WdU E u t) (inE E)) args s 0 0 (inE E)) (F0 m 54 ls []) := by
                intro f
                induction f with
                | zero => intro w2 ex2 k2 h1 h2 hn2 hq ls H locs hl hw; exfalso; omega
                | succ f ih =>
                  intro w2 ex2 k2 h1 h2 hn2 hq ls H locs hl hw
                  refine lv_iload_n hx hb dX7_bitsOf_54 rfl (lv_at hl 3 rfl) ?_
                  refine lv_sipush (v := 150) hx hb dX7_bitsOf_55 (by decide) ?_
                  refine lv_icmp_ge (tgt := 80) hx hb dX7_bitsOf_58 (by decide) (fun c19 => ?_) (fun c19 => ?_)
                  · have c19n : 150 ≤ k2 := by have q := (nI_leI (a := 150) (b := k2) (by omega) (by omega)); first | exact q.mp c19 | exact fun z => c19 (q.mpr z)
                    refine lv_fload_n hx hb dX7_bitsOf_80 rfl (lv_at hl 1 rfl) ?_
                    refine lv_fconst1 hx hb dX7_bitsOf_81 ?_
                    refine lv_fsub hx hb dX7_bitsOf_82 (nn32 (fs1 hn2)) ?_
                    refine lw_ldcwF hx hb hf.2.2.2.1 (hf.2.2.2.2 _ q848) dX7_bitsOf_83 ?_
                    refine lv_fmul hx hb dX7_bitsOf_86 (nn32 (fx8 (fs1 hn2))) ?_
                    refine lv_f2i hx hb dX7_bitsOf_87 ?_
                    refine lv_istore_n (lv' := [(3, .int (FP.f2i (FP.fmul (FP.fsub w2 FP.fconst1) ((1258291200 : UInt32))))), (0, .float (v)), (1, .float (w2)), (2, .int (ex2))]) hx hb dX7_bitsOf_88 rfl hl (by decide) rfl (fun ls hl => ?_)
                    refine lv_fload_n hx hb dX7_bitsOf_89 rfl (lv_at hl 1 rfl) ?_
                    refine lv_fconst0 hx hb dX7_bitsOf_90 ?_
                    refine lv_fcmp hx hb dX7_bitsOf_91 ?_
                    refine lv_if_ge (tgt := 101) hx hb dX7_bitsOf_92 (by decide) (fun c20 => ?_) (fun c20 => ?_)
                    · refine lv_iconst (v := 0) hx hb dX7_bitsOf_101 (by decide) ?_
                      refine lv_istore (lv' := [(4, .int 0), (3, .int (FP.f2i (FP.fmul (FP.fsub w2 FP.fconst1) ((1258291200 : UInt32))))), (0, .float (v)), (1, .float (w2)), (2, .int (ex2))]) hx hb dX7_bitsOf_102 hl (by decide) rfl (fun ls hl => ?_)
                      refine lv_iload hx hb dX7_bitsOf_104 (lv_at hl 0 rfl) ?_
                      refine lv_iload_n hx hb dX7_bitsOf_106 rfl (lv_at hl 4 rfl) ?_
                      refine lv_bipush (v := 23) hx hb dX7_bitsOf_107 (by decide) ?_
                      refine lv_ishl hx hb dX7_bitsOf_109 ?_
                      refine lv_ior hx hb dX7_bitsOf_110 ?_
                      refine lv_iload_n hx hb dX7_bitsOf_111 rfl (lv_at hl 1 rfl) ?_
                      refine lv_ior hx hb dX7_bitsOf_112 ?_
                      exact e_i hf hr hlocks hw rfl (congrArg (fun z => (z, μ)) ((hq).trans ((if_pos c19).trans ((if_pos c20).trans rfl)))) dX7_bitsOf_113
                    · refine lv_ldcw hx hb hf.2.2.2.1 (hf.2.2.2.2 _ q849) dX7_bitsOf_95 ?_
                      refine lv_goto (tgt := 102) hx hb dX7_bitsOf_98 (by decide) ?_
                      refine lv_istore (lv' := [(4, .int (-2147483648)), (3, .int (FP.f2i (FP.fmul (FP.fsub w2 FP.fconst1) ((1258291200 : UInt32))))), (0, .float (v)), (1, .float (w2)), (2, .int (ex2))]) hx hb dX7_bitsOf_102 hl (by decide) rfl (fun ls hl => ?_)
                      refine lv_iload hx hb dX7_bitsOf_104 (lv_at hl 0 rfl) ?_
                      refine lv_iload_n hx hb dX7_bitsOf_106 rfl (lv_at hl 4 rfl) ?_
                      refine lv_bipush (v := 23) hx hb dX7_bitsOf_107 (by decide) ?_
                      refine lv_ishl hx hb dX7_bitsOf_109 ?_
                      refine lv_ior hx hb dX7_bitsOf_110 ?_
                      refine lv_iload_n hx hb dX7_bitsOf_111 rfl (lv_at hl 1 rfl) ?_
                      refine lv_ior hx hb dX7_bitsOf_112 ?_
                      exact e_i hf hr hlocks hw rfl (congrArg (fun z => (z, μ)) ((hq).trans ((if_pos c19).trans ((if_neg c20).trans rfl)))) dX7_bitsOf_113
                  · have c19n : ¬ 150 ≤ k2 := by have q := (nI_leI (a := 150) (b := k2) (by omega) (by omega)); first | exact q.mp c19 | exact fun z => c19 (q.mpr z)
                    refine lv_fload_n hx hb dX7_bitsOf_61 rfl (lv_at hl 1 rfl) ?_
                    refine lv_fconst1 hx hb dX7_bitsOf_62 ?_
                    refine lv_fcmp hx hb dX7_bitsOf_63 ?_
                    refine lv_if_ge (tgt := 80) hx hb dX7_bitsOf_64 (by decide) (fun c21 => ?_) (fun c21 => ?_)
                    · refine lv_fload_n hx hb dX7_bitsOf_80 rfl (lv_at hl 1 rfl) ?_
                      refine lv_fconst1 hx hb dX7_bitsOf_81 ?_
                      refine lv_fsub hx hb dX7_bitsOf_82 (nn32 (fs1 hn2)) ?_
                      refine lw_ldcwF hx hb hf.2.2.2.1 (hf.2.2.2.2 _ q848) dX7_bitsOf_83 ?_
                      refine lv_fmul hx hb dX7_bitsOf_86 (nn32 (fx8 (fs1 hn2))) ?_
                      refine lv_f2i hx hb dX7_bitsOf_87 ?_
                      refine lv_istore_n (lv' := [(3, .int (FP.f2i (FP.fmul (FP.fsub w2 FP.fconst1) ((1258291200 : UInt32))))), (0, .float (v)), (1, .float (w2)), (2, .int (ex2))]) hx hb dX7_bitsOf_88 rfl hl (by decide) rfl (fun ls hl => ?_)
                      refine lv_fload_n hx hb dX7_bitsOf_89 rfl (lv_at hl 1 rfl) ?_
                      refine lv_fconst0 hx hb dX7_bitsOf_90 ?_
                      refine lv_fcmp hx hb dX7_bitsOf_91 ?_
                      refine lv_if_ge (tgt := 101) hx hb dX7_bitsOf_92 (by decide) (fun c22 => ?_) (fun c22 => ?_)
                      · refine lv_iconst (v := 0) hx hb dX7_bitsOf_101 (by decide) ?_
                        refine lv_istore (lv' := [(4, .int 0), (3, .int (FP.f2i (FP.fmul (FP.fsub w2 FP.fconst1) ((1258291200 : UInt32))))), (0, .float (v)), (1, .float (w2)), (2, .int (ex2))]) hx hb dX7_bitsOf_102 hl (by decide) rfl (fun ls hl => ?_)
                        refine lv_iload hx hb dX7_bitsOf_104 (lv_at hl 0 rfl) ?_
                        refine lv_iload_n hx hb dX7_bitsOf_106 rfl (lv_at hl 4 rfl) ?_
                        refine lv_bipush (v := 23) hx hb dX7_bitsOf_107 (by decide) ?_
                        refine lv_ishl hx hb dX7_bitsOf_109 ?_
                        refine lv_ior hx hb dX7_bitsOf_110 ?_
                        refine lv_iload_n hx hb dX7_bitsOf_111 rfl (lv_at hl 1 rfl) ?_
                        refine lv_ior hx hb dX7_bitsOf_112 ?_
                        exact e_i hf hr hlocks hw rfl (congrArg (fun z => (z, μ)) ((hq).trans ((if_neg c19).trans ((if_pos c21).trans ((if_pos c22).trans rfl))))) dX7_bitsOf_113
                      · refine lv_ldcw hx hb hf.2.2.2.1 (hf.2.2.2.2 _ q849) dX7_bitsOf_95 ?_
                        refine lv_goto (tgt := 102) hx hb dX7_bitsOf_98 (by decide) ?_
                        refine lv_istore (lv' := [(4, .int (-2147483648)), (3, .int (FP.f2i (FP.fmul (FP.fsub w2 FP.fconst1) ((1258291200 : UInt32))))), (0, .float (v)), (1, .float (w2)), (2, .int (ex2))]) hx hb dX7_bitsOf_102 hl (by decide) rfl (fun ls hl => ?_)
                        refine lv_iload hx hb dX7_bitsOf_104 (lv_at hl 0 rfl) ?_
                        refine lv_iload_n hx hb dX7_bitsOf_106 rfl (lv_at hl 4 rfl) ?_
                        refine lv_bipush (v := 23) hx hb dX7_bitsOf_107 (by decide) ?_
                        refine lv_ishl hx hb dX7_bitsOf_109 ?_
                        refine lv_ior hx hb dX7_bitsOf_110 ?_
                        refine lv_iload_n hx hb dX7_bitsOf_111 rfl (lv_at hl 1 rfl) ?_
                        refine lv_ior hx hb dX7_bitsOf_112 ?_
                        exact e_i hf hr hlocks hw rfl (congrArg (fun z => (z, μ)) ((hq).trans ((if_neg c19).trans ((if_pos c21).trans ((if_neg c22).trans rfl))))) dX7_bitsOf_113
                    · refine lv_fload_n hx hb dX7_bitsOf_67 rfl (lv_at hl 1 rfl) ?_
                      refine lv_fconst2 hx hb dX7_bitsOf_68 ?_
                      refine lv_fmul hx hb dX7_bitsOf_69 (nn32 (fd hn2)) ?_
                      refine lv_fstore_n (lv' := [(1, .float (FP.fmul w2 FP.fconst2)), (0, .float (v)), (2, .int (ex2)), (3, .int (nI k2))]) hx hb dX7_bitsOf_70 rfl hl (by decide) rfl (fun ls hl => ?_)
                      refine lv_iinc (v := ex2 + (-1)) (lv' := [(2, .int (ex2 + (-1))), (1, .float (FP.fmul w2 FP.fconst2)), (0, .float (v)), (3, .int (nI k2))]) hx hb dX7_bitsOf_71 hl (k := 2) rfl rfl (by decide) rfl (fun ls hl => ?_)
                      refine lv_iinc (v := nI (k2 + 1)) (lv' := [(3, .int (nI (k2 + 1))), (2, .int (ex2 + (-1))), (1, .float (FP.fmul w2 FP.fconst2)), (0, .float (v))]) hx hb dX7_bitsOf_74 hl (k := 3) rfl (nI_1 _) (by decide) rfl (fun ls hl => ?_)
                      refine lv_goto (tgt := 54) hx hb dX7_bitsOf_77 (by decide) ?_
                      exact ih (FP.fmul w2 FP.fconst2) (ex2 + (-1)) (k2 + 1) (by omega) (by omega) (fd hn2) (((hq).trans ((if_neg c19).trans ((if_neg c21).trans rfl)))) _ _ _ (lv_sub hl [3, 2, 1, 0] rfl) hw
              exact key_54 151 w ex 0 (by omega) (by omega) hn1 (((hq).trans ((if_neg c13).trans ((if_pos c18).trans rfl)))) _ _ _ (lv_sub hl [1, 2, 3, 0] rfl) hw
            · refine lv_fload_n hx hb dX7_bitsOf_39 rfl (lv_at hl 1 rfl) ?_
              refine lv_fconst2 hx hb dX7_bitsOf_40 ?_
              refine lv_fdiv hx hb dX7_bitsOf_41 (nn32 (fh hn1)) ?_
              refine lv_fstore_n (lv' := [(1, .float (FP.fdiv w FP.fconst2)), (0, .float (v)), (2, .int (ex)), (3, .int (nI k))]) hx hb dX7_bitsOf_42 rfl hl (by decide) rfl (fun ls hl => ?_)
              refine lv_iinc (v := ex + 1) (lv' := [(2, .int (ex + 1)), (1, .float (FP.fdiv w FP.fconst2)), (0, .float (v)), (3, .int (nI k))]) hx hb dX7_bitsOf_43 hl (k := 2) rfl rfl (by decide) rfl (fun ls hl => ?_)
              refine lv_iinc (v := nI (k + 1)) (lv' := [(3, .int (nI (k + 1))), (2, .int (ex + 1)), (1, .float (FP.fdiv w FP.fconst2)), (0, .float (v))]) hx hb dX7_bitsOf_46 hl (k := 3) rfl (nI_1 _) (by decide) rfl (fun ls hl => ?_)
              refine lv_goto (tgt := 26) hx hb dX7_bitsOf_49 (by decide) ?_
              exact ih (FP.fdiv w FP.fconst2) (ex + 1) (k + 1) (by omega) (by omega) (fh hn1) (((hq).trans ((if_neg c13).trans ((if_neg c18).trans rfl)))) _ _ _ (lv_sub hl [3, 2, 1, 0] rfl) hw
      exact key_26 151 (FP.fneg v) (127 : Int32) 0 (by omega) (by omega) (by first | exact hnv | exact fng hnv) (((if_neg c1).trans ((if_neg c2).trans rfl))) _ _ _ (lv_sub hl [3, 2, 1, 0] rfl) hw
  · refine lv_iconst (v := 0) hx hb dX7_bitsOf_6 (by decide) ?_
    exact e_i hf hr hlocks hw rfl (congrArg (fun z => (z, μ)) ((if_pos c1).trans rfl)) dX7_bitsOf_7
theorem kr_le (g : Nat → Int32) (n : Nat) : (sp_X3_keptReadings g n).toInt ≤ 9 := by
  unfold sp_X3_keptReadings mnI
  split
  · decide
  · next h => rw [Int32.lt_iff_toInt_lt, show (9 : Int32).toInt = 9 by decide] at h; omega
theorem kr_lt {g : Nat → Int32} {n k : Nat} (hk : k ≤ 9) (c : ¬ sp_X3_keptReadings g n ≤ nI k) : k + 1 ≤ 9 := by
  have q := kr_le g n
  rw [Int32.le_iff_toInt_le, nI_toInt (by omega)] at c
  omega
def lp_X7_meanBits_34 (g : Nat → Int32)  (a : Int32) (t2 : Nat) : Nat → Int64 → Nat → Int32
  | 0, _, _ => 0
  | f + 1, z, k =>
    if (sp_X3_keptReadings g t2  : Int32) ≤ nI k then
      sp_X7_bitsOf   (FP.d2f (FP.ddiv (FP.ddiv (FP.l2d z) (FP.i2d (sp_X3_keptReadings g t2 ))) ((4652007308841189376 : UInt64))))
    else
      lp_X7_meanBits_34 g a t2 f (z + ((sp_X3_reading g t2 (nI k)).toInt64)) (k + 1)
def sp_X7_meanBits (g : Nat → Int32)  (a : Int32) : Int32 :=
  oc (sp_X4_sensorAt g  a) (
    (-2000000001)) (fun t2 =>
    if (sp_X3_keptReadings g t2  : Int32) = 0 then
      (-2000000004)
    else
      lp_X7_meanBits_34 g a t2 10 (0 : Int64) 0)
set_option maxHeartbeats 4000000 in
set_option maxRecDepth 100000 in
theorem k_X7_meanBits (l : Launch) (E : En) (μ : Mu)  (a : Int32)  : MtI l yX7_meanBits cX7_meanBits 7 .int ({ frames := 2, cells := 0, slots := 0, locals := 33 }) [.ref (E.1 (231)), .int (a)] E μ ((sp_X7_meanBits (μ.1 0) a), μ) := by
  refine mt_of (by decide +kernel) (Nat.le_of_ble_eq_true rfl) ?_
  intro p e s m args below meth c ls hf hr hlocks hl hw
  have hx := hf.1
  have hb := hf.2.1
  have hl : lv_has ls 7 [(0, .ref (E.1 (231))), (1, .int (a))] := hl
  refine lv_aload_n hx hb dX7_meanBits_0 rfl (lv_at hl 0 rfl) ?_
  refine g_f hw hf (by decide) (c_O E _) rfl inlX7 0 (by decide) rfl q15 rfl dX7_meanBits_1 ?_
  refine lv_iload_n hx hb dX7_meanBits_4 rfl (lv_at hl 1 rfl) ?_
  refine c_q hw (run_V (As := [.int (a)]) (rest := []) (np := 1) hf hw (k_X4_sensorAt l E _ (by decide) a  ) ⟨gl_V q305 q306 q307 q14 q308, by decide +kernel⟩ ⟨rfl, rfl, Nat.le_of_ble_eq_true rfl, Nat.le_of_ble_eq_true rfl⟩ (lt_iS (by decide)) (c_iS E _ (by decide)) rfl rfl hl.1 rfl (Nat.le_of_ble_eq_true rfl) dX7_meanBits_5 ⟨Nat.zero_le _, Nat.zero_le _⟩) (fun H locs hw => ?_)
  rcases o1 : sp_X4_sensorAt (μ.1 0)  a with _ | t2
  · refine W.eq (g2 := F0 m 8 ls [.null]) rfl ?_
    refine lv_astore_nN (lv' := [(2, .null), (0, .ref (E.1 (231))), (1, .int (a))]) hx hb dX7_meanBits_8 rfl hl (by decide) rfl (fun ls hl => ?_)
    refine lv_aload_nN hx hb dX7_meanBits_9 rfl (lv_at hl 0 rfl) ?_
    refine lv_ifnonnullN hx hb dX7_meanBits_10 ?_
    refine lv_ldc hx hb hf.2.2.2.1 (hf.2.2.2.2 _ q161) dX7_meanBits_13 ?_
    exact e_i hf hr hlocks hw rfl (congrArg (fun z => (z, μ)) ((oc_none o1).trans rfl)) dX7_meanBits_15
  · have ht3 : t2 < 6 := (b_X4_sensorAt o1)
    refine W.eq (g2 := F0 m 8 ls [.ref (E.1 (iN 0 t2))]) rfl ?_
    refine lv_astore_n (lv' := [(2, .ref (E.1 (iN 0 t2))), (0, .ref (E.1 (231))), (1, .int (a))]) hx hb dX7_meanBits_8 rfl hl (by decide) rfl (fun ls hl => ?_)
    refine lv_aload_n hx hb dX7_meanBits_9 rfl (lv_at hl 0 rfl) ?_
    refine lv_ifnonnull (tgt := 16) hx hb dX7_meanBits_10 (by decide) ?_
    refine lv_aload_n hx hb dX7_meanBits_16 rfl (lv_at hl 0 rfl) ?_
    refine c_iR hw (run_V (As := []) (rest := []) (np := 0) hf hw (k_X3_keptReadings l E _ (by decide) ht3   ) ⟨gl_V q814 q815 q816 q48 q817, by decide +kernel⟩ ⟨rfl, rfl, Nat.le_of_ble_eq_true rfl, Nat.le_of_ble_eq_true rfl⟩ (lt_iN (by decide) ht3) (c_iN E _ (by decide) ht3) rfl rfl hl.1 rfl (Nat.le_of_ble_eq_true rfl) dX7_meanBits_17 ⟨Nat.zero_le _, Nat.zero_le _⟩) (fun H locs hw => ?_)
    refine lv_istore_n (lv' := [(3, .int (sp_X3_keptReadings (μ.1 0) t2 )), (2, .ref (E.1 (iN 0 t2))), (0, .ref (E.1 (231))), (1, .int (a))]) hx hb dX7_meanBits_20 rfl hl (by decide) rfl (fun ls hl => ?_)
    refine lv_iload_n hx hb dX7_meanBits_21 rfl (lv_at hl 0 rfl) ?_
    refine lv_if_ne (tgt := 28) hx hb dX7_meanBits_22 (by decide) (fun c4 => ?_) (fun c4 => ?_)
    · refine lv_lconst (v := 0) hx hb dX7_meanBits_28 (by decide) ?_
      refine lv_lstore (lv' := [(4, .long (0)), (3, .int (sp_X3_keptReadings (μ.1 0) t2 )), (2, .ref (E.1 (iN 0 t2))), (0, .ref (E.1 (231))), (1, .int (a))]) hx hb dX7_meanBits_29 hl (by decide) rfl (fun ls hl => ?_)
      refine lv_iconst (v := 0) hx hb dX7_meanBits_31 (by decide) ?_
      refine lv_istore (lv' := [(6, .int 0), (4, .long (0)), (3, .int (sp_X3_keptReadings (μ.1 0) t2 )), (2, .ref (E.1 (iN 0 t2))), (0, .ref (E.1 (231))), (1, .int (a))]) hx hb dX7_meanBits_32 hl (by decide) rfl (fun ls hl => ?_)
      have key_34 : ∀ (f : Nat) (z : Int64) (k : Nat), k + f = 10 → k ≤ 9 → sp_X7_meanBits (μ.1 0) a = lp_X7_meanBits_34 (μ.1 0) a t2 f z k → ∀ (ls : Array Slot) (H : Heap) (locs : List Loc), lv_has ls 7 [(0, .ref (E.1 (231))), (1, .int (a)), (2, .ref (E.1 (iN 0 t2))), (3, .int (sp_X3_keptReadings (μ.1 0) t2 )), (4, .long (z)), (6, .int (nI k))] → Wk E μ s H locs → W p l e ({ frames := 2, cells := 0, slots := 0, locals := 33 }) s m args below meth c H locs 0 0 (MQ below (va_Qi (fun r u => r = ((sp_X7_meanBits (μ.1 0) a, μ)).1 ∧ u = ((sp_X7_meanBits (μ.1 0) a, μ)).2) (fun u t => WdU E u t) (inE E)) args s 0 0 (inE E)) (F0 m 34 ls []) := by
        intro f
        induction f with
        | zero => intro z k h1 h2 hq ls H locs hl hw; exfalso; omega
        | succ f ih =>
          intro z k h1 h2 hq ls H locs hl hw
          refine lv_iload hx hb dX7_meanBits_34 (lv_at hl 5 rfl) ?_
          refine lv_iload_n hx hb dX7_meanBits_36 rfl (lv_at hl 3 rfl) ?_
          refine lv_icmp_ge (tgt := 58) hx hb dX7_meanBits_37 (by decide) (fun c5 => ?_) (fun c5 => ?_)
          · refine lv_lload hx hb dX7_meanBits_58 (lv_at hl 4 rfl) ?_
            refine lv_l2d hx hb dX7_meanBits_60 ?_
            refine lv_iload_n hx hb dX7_meanBits_61 rfl (lv_at hl 3 rfl) ?_
            refine lv_i2d hx hb dX7_meanBits_62 ?_
            refine lv_ddiv hx hb dX7_meanBits_63 (nn64 (mean1 c4)) ?_
            refine lv_ldc2d hx hb hf.2.2.2.1 (hf.2.2.2.2 _ q844) dX7_meanBits_64 ?_
            refine lv_ddiv hx hb dX7_meanBits_67 (nn64 (mean2 (mean1 c4))) ?_
            refine lv_d2f hx hb dX7_meanBits_68 (nn32 (mean3 (mean2 (mean1 c4)))) ?_
            refine c_iR hw (run_S (As := [.float (FP.d2f (FP.ddiv (FP.ddiv (FP.l2d z) (FP.i2d (sp_X3_keptReadings (μ.1 0) t2 ))) ((4652007308841189376 : UInt64))))]) (rest := []) (np := 1) hf hw (k_X7_bitsOf l E _  (FP.d2f (FP.ddiv (FP.ddiv (FP.l2d z) (FP.i2d (sp_X3_keptReadings (μ.1 0) t2 ))) ((4652007308841189376 : UInt64))))  (mean3 (mean2 (mean1 c4)))) ⟨gl_S q845 q846 q2 q847, by decide +kernel⟩ ⟨rfl, rfl, Nat.le_of_ble_eq_true rfl, Nat.le_of_ble_eq_true rfl⟩ rfl hl.1 rfl (Nat.le_of_ble_eq_true rfl) dX7_meanBits_69 ⟨Nat.zero_le _, Nat.zero_le _⟩) (fun H locs hw => ?_)
            exact e_i hf hr hlocks hw rfl (congrArg (fun z => (z, μ)) ((hq).trans ((if_pos c5).trans rfl))) dX7_meanBits_72
          · refine lv_lload hx hb dX7_meanBits_40 (lv_at hl 4 rfl) ?_
            refine lv_aload_n hx hb dX7_meanBits_42 rfl (lv_at hl 2 rfl) ?_
            refine lv_iload hx hb dX7_meanBits_43 (lv_at hl 5 rfl) ?_
            refine c_iR hw (run_V (As := [.int (nI k)]) (rest := [.long (z)]) (np := 1) hf hw (k_X3_reading l E _ (by decide) ht3 (nI k)  ) ⟨gl_V q819 q820 q821 q48 q822, by decide +kernel⟩ ⟨rfl, rfl, Nat.le_of_ble_eq_true rfl, Nat.le_of_ble_eq_true rfl⟩ (lt_iN (by decide) ht3) (c_iN E _ (by decide) ht3) rfl rfl hl.1 rfl (Nat.le_of_ble_eq_true rfl) dX7_meanBits_45 ⟨Nat.zero_le _, Nat.zero_le _⟩) (fun H locs hw => ?_)
            refine lv_i2l hx hb dX7_meanBits_48 rfl ?_
            refine lv_ladd hx hb dX7_meanBits_49 ?_
            refine lv_lstore (lv' := [(4, .long (z + ((sp_X3_reading (μ.1 0) t2 (nI k)).toInt64))), (0, .ref (E.1 (231))), (1, .int (a)), (2, .ref (E.1 (iN 0 t2))), (3, .int (sp_X3_keptReadings (μ.1 0) t2 )), (6, .int (nI k))]) hx hb dX7_meanBits_50 hl (by decide) rfl (fun ls hl => ?_)
            refine lv_iinc (v := nI (k + 1)) (lv' := [(6, .int (nI (k + 1))), (4, .long (z + ((sp_X3_reading (μ.1 0) t2 (nI k)).toInt64))), (0, .ref (E.1 (231))), (1, .int (a)), (2, .ref (E.1 (iN 0 t2))), (3, .int (sp_X3_keptReadings (μ.1 0) t2 ))]) hx hb dX7_meanBits_52 hl (k := 5) rfl (nI_1 _) (by decide) rfl (fun ls hl => ?_)
            refine lv_goto (tgt := 34) hx hb dX7_meanBits_55 (by decide) ?_
            exact ih (z + ((sp_X3_reading (μ.1 0) t2 (nI k)).toInt64)) (k + 1) (by omega) (kr_lt h2 c5) (((hq).trans ((if_neg c5).trans rfl))) _ _ _ (lv_sub hl [2, 3, 4, 5, 1, 0] rfl) hw
      exact key_34 10 (0 : Int64) 0 (by omega) (by omega) (((oc_some o1).trans ((if_neg c4).trans rfl))) _ _ _ (lv_sub hl [4, 5, 3, 2, 1, 0] rfl) hw
    · refine lv_ldc hx hb hf.2.2.2.1 (hf.2.2.2.2 _ q235) dX7_meanBits_25 ?_
      exact e_i hf hr hlocks hw rfl (congrArg (fun z => (z, μ)) ((oc_some o1).trans ((if_pos c4).trans rfl))) dX7_meanBits_27
