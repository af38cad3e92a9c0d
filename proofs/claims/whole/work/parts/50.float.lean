/-! ===== floats: what is no number does not come up ===== -/
theorem nn64 {r : UInt64} (h : FP.Core.dIsNaN r = false) : vf_n64 r := by
  have q := (FP.Core.ne_nan r).mp ((FP.Core.notNaN_iff r).mp h)
  unfold vf_n64
  rw [UInt64.le_iff_toNat_le, UInt64.toNat_and, show (0x7fffffffffffffff : UInt64).toNat = 2 ^ 63 - 1 by decide, Nat.and_two_pow_sub_one_eq_mod]
  exact q
theorem nn32 {r : UInt32} (h : FP.Core.fIsNaN r = false) : vf_n32 r := by
  have q := (FP.Core.ne_nan32 r).mp ((FP.Core.notNaN_iff32 r).mp h)
  unfold vf_n32
  rw [UInt32.le_iff_toNat_le, UInt32.toNat_and, show (0x7fffffff : UInt32).toNat = 2 ^ 31 - 1 by decide, Nat.and_two_pow_sub_one_eq_mod]
  exact q
theorem fin_nn {a : UInt64} (h : FP.Core.DFin a) : FP.Core.dIsNaN a = false := (FP.Core.notNaN_iff a).mpr ((FP.Core.ne_nan a).mpr (Nat.le_of_lt ((FP.Core.fin_bits a).mp h)))
theorem mean1 {z : Int64} {k : Int32} (hk : k ≠ 0) : FP.Core.dIsNaN (FP.Core.ddiv (FP.Core.l2d z) (FP.Core.i2d k)) = false :=
  FP.Core.ddiv_out (fin_nn (FP.Core.l2d_fin z)) (FP.Core.i2d_fin k) (fun q => FP.Core.i2d_ne_zero hk ((FP.Core.zero_bits2 _).mp q))
theorem mean2 {a : UInt64} (h : FP.Core.dIsNaN a = false) : FP.Core.dIsNaN (FP.Core.ddiv a 4652007308841189376) = false :=
  FP.Core.ddiv_out h ((FP.Core.fin_bits _).mpr (by decide)) (fun q => absurd ((FP.Core.zero_bits2 _).mp q) (by decide))
theorem mean3 {a : UInt64} (h : FP.Core.dIsNaN a = false) : FP.fIsNaN (FP.d2f a) = false := (FP.d2f_nan a).trans h
/-- as mt_of, for a class some of whose other methods have an entry of their own -/
theorem mt_ofF {l : Launch} {E : En} {μ : Mu} {y : MethodName} {cc : ByteArray} {n : Nat} {ret : Option FieldType} {rm : Room} {av : List Value} {Qc : Array Value → State → Outcome → State → Prop} (hy : plainFor y = true) (hlen : ((lg_sl av).length ≤ n)) (body : Body l y cc n ret rm av E μ Qc) : Met l y (wsM y cc n ret) rm (va_Pc av (WdU E μ)) Qc 0 0 (inE E) := by
  refine MetFree.of_bodySF (code := cc) (maxLocals := n) (ret := ret) hy ?_ ?_
  · intro args s m h hn
    obtain ⟨meth, c, h1, h2, h3, h4, h5, h6, -, -⟩ := Cond.code_spec hn (atoms_spec (ws := wsM y cc n ret) h _ List.mem_cons_self)
    exact ⟨meth, c, h1, h2, h3, h4, h5, h6⟩
  · intro p e s m args below meth c s₁ B hml hv _
    obtain ⟨rfl, hw⟩ := hv
    have hts := atoms_spec (ws := wsM y cc n ret) B.pre
    have hown : s.vm.findClass y.cls = some m.cls := findClass_of_methodNamed B.named
    have hl := lv_entry av (n := n) hlen
    have hh0 : s₁.heap = s.heap := by rw [B.state]; rfl
    have X0 := Stand.of_body B
    have key := body p e s m _ below meth c _ ⟨B.exec, B.bytes, hml, hown, fun w h => hts w (List.mem_cons_of_mem _ h)⟩ B.returns B.notSynchronized hl (WdU_Wk hw)
    rw [lg_entry_eq]
    obtain ⟨t, a1, o, b1, b2, b3, b4⟩ := key s₁ hh0 X0
    exact ⟨t, o, a1, b1, b2, b3, b4⟩
def sp_Jxf58ca_isNaN_12338   (x : UInt32) : Int32 :=
  if (Op.cmpValue (FP.fcmp x x) .l : Int32) = 0 then
    0
  else
    1
set_option maxHeartbeats 4000000 in
set_option maxRecDepth 100000 in
theorem k_Jxf58ca_isNaN_12338 (l : Launch) (E : En) (μ : Mu)  (x : UInt32)  : MtI l yJxf58ca_isNaN_12338 cJxf58ca_isNaN_12338 1 .boolean ({ frames := 0, cells := 0, slots := 0, locals := 0 }) [.float (x)] E μ ((sp_Jxf58ca_isNaN_12338  x), μ) := by
  refine mt_ofF (by decide +kernel) (Nat.le_of_ble_eq_true rfl) ?_
  intro p e s m args below meth c ls hf hr hlocks hl hw
  have hx := hf.1
  have hb := hf.2.1
  have hl : lv_has ls 1 [(0, .float (x))] := hl
  refine lv_fload_n hx hb dJxf58ca_isNaN_12338_0 rfl (lv_at hl 0 rfl) ?_
  refine lv_fload_n hx hb dJxf58ca_isNaN_12338_1 rfl (lv_at hl 0 rfl) ?_
  refine lv_fcmp hx hb dJxf58ca_isNaN_12338_2 ?_
  refine lv_if_eq (tgt := 10) hx hb dJxf58ca_isNaN_12338_3 (by decide) (fun c1 => ?_) (fun c1 => ?_)
  · refine lv_iconst (v := 0) hx hb dJxf58ca_isNaN_12338_10 (by decide) ?_
    exact e_i hf hr hlocks hw rfl (congrArg (fun z => (z, μ)) ((if_pos c1).trans rfl)) dJxf58ca_isNaN_12338_11
  · refine lv_iconst (v := 1) hx hb dJxf58ca_isNaN_12338_6 (by decide) ?_
    refine lv_goto (tgt := 11) hx hb dJxf58ca_isNaN_12338_7 (by decide) ?_
    exact e_i hf hr hlocks hw rfl (congrArg (fun z => (z, μ)) ((if_neg c1).trans rfl)) dJxf58ca_isNaN_12338_11
def sp_Jxf58ca_floatToIntBits_5c35a   (x : UInt32) : Int32 :=
  if (sp_Jxf58ca_isNaN_12338   x : Int32) = 0 then
    x.toInt32
  else
    2143289344
set_option maxHeartbeats 4000000 in
set_option maxRecDepth 100000 in
theorem k_Jxf58ca_floatToIntBits_5c35a (l : Launch) (E : En) (μ : Mu)  (x : UInt32)  : MtI l yJxf58ca_floatToIntBits_5c35a cJxf58ca_floatToIntBits_5c35a 1 .int ({ frames := 1, cells := 0, slots := 0, locals := 20 }) [.float (x)] E μ ((sp_Jxf58ca_floatToIntBits_5c35a  x), μ) := by
  refine mt_ofF (by decide +kernel) (Nat.le_of_ble_eq_true rfl) ?_
  intro p e s m args below meth c ls hf hr hlocks hl hw
  have hx := hf.1
  have hb := hf.2.1
  have hl : lv_has ls 1 [(0, .float (x))] := hl
  refine lv_fload_n hx hb dJxf58ca_floatToIntBits_5c35a_0 rfl (lv_at hl 0 rfl) ?_
  refine c_iR hw (run_S (As := [.float (x)]) (rest := []) (np := 1) hf hw (k_Jxf58ca_isNaN_12338 l E _  x  ) ⟨gl_S q864 q865 q857 q866, by decide +kernel⟩ ⟨rfl, rfl, Nat.le_of_ble_eq_true rfl, Nat.le_of_ble_eq_true rfl⟩ rfl hl.1 rfl (Nat.le_of_ble_eq_true rfl) dJxf58ca_floatToIntBits_5c35a_1 ⟨Nat.zero_le _, Nat.zero_le _⟩) (fun H locs hw => ?_)
  refine lv_if_ne (tgt := 12) hx hb dJxf58ca_floatToIntBits_5c35a_4 (by decide) (fun c1 => ?_) (fun c1 => ?_)
  · refine lv_ldc hx hb hf.2.2.2.1 (hf.2.2.2.2 _ q863) dJxf58ca_floatToIntBits_5c35a_12 ?_
    exact e_i hf hr hlocks hw rfl (congrArg (fun z => (z, μ)) ((if_neg c1).trans rfl)) dJxf58ca_floatToIntBits_5c35a_14
  · refine lv_fload_n hx hb dJxf58ca_floatToIntBits_5c35a_7 rfl (lv_at hl 0 rfl) ?_
    refine vn_f2i hx hb (hf.2.2.1.trans hl.1.symm) hf.2.2.2.1 (hf.2.2.2.2 _ q859) (hf.2.2.2.2 _ q860) (hf.2.2.2.2 _ q861) (hf.2.2.2.2 _ q862) (Nat.le_of_ble_eq_true rfl) (Nat.le_of_ble_eq_true rfl) dJxf58ca_floatToIntBits_5c35a_8 ?_
    exact e_i hf hr hlocks hw rfl (congrArg (fun z => (z, μ)) ((if_pos c1).trans rfl)) dJxf58ca_floatToIntBits_5c35a_11
def lp_X8_meanBits_31 (g : Nat → Int32)  (a : Int32) : Nat → Int64 → Nat → Int32
  | 0, _, _ => 0
  | f + 1, z, k =>
    if (nI ((g (85 + 29 * a.toNatClampNeg + 19)).toNatClampNeg) : Int32) ≤ nI k then
      sp_Jxf58ca_floatToIntBits_5c35a   (FP.d2f (FP.ddiv (FP.ddiv (FP.l2d z) (FP.i2d (nI ((g (85 + 29 * a.toNatClampNeg + 19)).toNatClampNeg)))) ((4652007308841189376 : UInt64))))
    else
      lp_X8_meanBits_31 g a f (z + ((g (85 + 29 * a.toNatClampNeg + (20 + k))).toInt64)) (k + 1)
def sp_X8_meanBits (g : Nat → Int32)  (a : Int32) : Int32 :=
  if 0 ≤ a ∧ a ≤ (g 1) - 1 then
    if (nI ((g (85 + 29 * a.toNatClampNeg + 19)).toNatClampNeg) : Int32) = 0 then
      (-2000000004)
    else
      lp_X8_meanBits_31 g a 10 (0 : Int64) 0
  else
    (-2000000001)
set_option maxHeartbeats 4000000 in
set_option maxRecDepth 100000 in
theorem k_X8_meanBits (l : Launch) (E : En) (μ : Mu)  (a : Int32) (hI : RI (μ.1 8)) : MtI l yX8_meanBits cX8_meanBits 7 .int ({ frames := 2, cells := 0, slots := 0, locals := 43 }) [.ref (E.1 (232)), .int (a)] E μ ((sp_X8_meanBits (μ.1 8) a), μ) := by
  refine mt_of (by decide +kernel) (Nat.le_of_ble_eq_true rfl) ?_
  intro p e s m args below meth c ls hf hr hlocks hl hw
  have hx := hf.1
  have hb := hf.2.1
  have hl : lv_has ls 7 [(0, .ref (E.1 (232))), (1, .int (a))] := hl
  refine lv_aload_n hx hb dX8_meanBits_0 rfl (lv_at hl 0 rfl) ?_
  refine lv_iload_n hx hb dX8_meanBits_1 rfl (lv_at hl 1 rfl) ?_
  refine c_iR hw (run_V (As := [.int (a)]) (rest := []) (np := 1) hf hw (kn_X8_isSensor l E _  a  ) ⟨gl_V q370 q371 q372 q5 q373, by decide +kernel⟩ ⟨rfl, rfl, Nat.le_of_ble_eq_true rfl, Nat.le_of_ble_eq_true rfl⟩ (by decide) (c_R E _) rfl rfl hl.1 rfl (Nat.le_of_ble_eq_true rfl) dX8_meanBits_2 ⟨Nat.zero_le _, Nat.zero_le _⟩) (fun H locs hw => ?_)
  refine lv_if_ne (tgt := 11) hx hb dX8_meanBits_5 (by decide) (fun c1 => ?_) (fun c1 => ?_)
  · replace c1 := (bz_n0 _).mp c1
    have c1a := (ni_of hI.2.1 (by decide) c1)
    have c1ab : a.toNatClampNeg < 6 := Nat.lt_of_lt_of_le c1a.2 (Nat.le_of_lt_succ hI.2.1.2)
    refine lv_aload_n hx hb dX8_meanBits_11 rfl (lv_at hl 0 rfl) ?_
    refine lv_iload_n hx hb dX8_meanBits_12 rfl (lv_at hl 1 rfl) ?_
    refine fold_i (show a = nI (a.toNatClampNeg) from c1a.1) ?_
    refine lv_bipush (v := 19) hx hb dX8_meanBits_13 (by decide) ?_
    refine c_iR hw (run_V (As := [.int (nI (a.toNatClampNeg)), .int 19]) (rest := []) (np := 2) hf hw (kn_X8_of l E _  a.toNatClampNeg 19  (show a.toNatClampNeg < 6 from c1ab) (show 19 < 29 from (by decide))) ⟨gl_V q227 q228 q229 q5 q230, by decide +kernel⟩ ⟨rfl, rfl, Nat.le_of_ble_eq_true rfl, Nat.le_of_ble_eq_true rfl⟩ (by decide) (c_R E _) rfl rfl hl.1 rfl (Nat.le_of_ble_eq_true rfl) dX8_meanBits_15 ⟨Nat.zero_le _, Nat.zero_le _⟩) (fun H locs hw => ?_)
    have hb2 := ((hI).2.2.2 _ c1ab).2.1.2
    refine fold_i (show μ.1 8 (85 + 29 * a.toNatClampNeg + 19) = nI ((μ.1 8 (85 + 29 * a.toNatClampNeg + 19)).toNatClampNeg) from ((hI).2.2.2 _ c1ab).2.1.1) ?_
    refine lv_istore_n (lv' := [(2, .int (nI ((μ.1 8 (85 + 29 * a.toNatClampNeg + 19)).toNatClampNeg))), (0, .ref (E.1 (232))), (1, .int (a))]) hx hb dX8_meanBits_18 rfl hl (by decide) rfl (fun ls hl => ?_)
    refine lv_iload_n hx hb dX8_meanBits_19 rfl (lv_at hl 0 rfl) ?_
    refine lv_if_ne (tgt := 26) hx hb dX8_meanBits_20 (by decide) (fun c3 => ?_) (fun c3 => ?_)
    · have c3n : ¬ ((μ.1 8 (85 + 29 * a.toNatClampNeg + 19)).toNatClampNeg) = 0 := by have q := (nI_eq (a := ((μ.1 8 (85 + 29 * a.toNatClampNeg + 19)).toNatClampNeg)) (b := 0) (by omega) (by omega)); first | exact q.mp c3 | exact fun z => c3 (q.mpr z)
      refine lv_lconst (v := 0) hx hb dX8_meanBits_26 (by decide) ?_
      refine lv_lstore_n (lv' := [(3, .long (0)), (2, .int (nI ((μ.1 8 (85 + 29 * a.toNatClampNeg + 19)).toNatClampNeg))), (0, .ref (E.1 (232))), (1, .int (a))]) hx hb dX8_meanBits_27 rfl hl (by decide) rfl (fun ls hl => ?_)
      refine lv_iconst (v := 0) hx hb dX8_meanBits_28 (by decide) ?_
      refine lv_istore (lv' := [(5, .int 0), (3, .long (0)), (2, .int (nI ((μ.1 8 (85 + 29 * a.toNatClampNeg + 19)).toNatClampNeg))), (0, .ref (E.1 (232))), (1, .int (a))]) hx hb dX8_meanBits_29 hl (by decide) rfl (fun ls hl => ?_)
      have key_31 : ∀ (f : Nat) (z : Int64) (k : Nat), k + f = 10 → k ≤ 9 → (μ.1 8 (85 + 29 * a.toNatClampNeg + 19)).toNatClampNeg < 10 → sp_X8_meanBits (μ.1 8) a = lp_X8_meanBits_31 (μ.1 8) a f z k → ∀ (ls : Array Slot) (H : Heap) (locs : List Loc), lv_has ls 7 [(0, .ref (E.1 (232))), (1, .int (a)), (2, .int (nI ((μ.1 8 (85 + 29 * a.toNatClampNeg + 19)).toNatClampNeg))), (3, .long (z)), (5, .int (nI k))] → Wk E μ s H locs → W p l e ({ frames := 2, cells := 0, slots := 0, locals := 43 }) s m args below meth c H locs 0 0 (MQ below (va_Qi (fun r u => r = ((sp_X8_meanBits (μ.1 8) a, μ)).1 ∧ u = ((sp_X8_meanBits (μ.1 8) a, μ)).2) (fun u t => WdU E u t) (inE E)) args s 0 0 (inE E)) (F0 m 31 ls []) := by
        intro f
        induction f with
        | zero => intro z k h1 h2 h3 hq ls H locs hl hw; exfalso; omega
        | succ f ih =>
          intro z k h1 h2 h3 hq ls H locs hl hw
          refine lv_iload hx hb dX8_meanBits_31 (lv_at hl 4 rfl) ?_
          refine lv_iload_n hx hb dX8_meanBits_33 rfl (lv_at hl 2 rfl) ?_
          refine lv_icmp_ge (tgt := 57) hx hb dX8_meanBits_34 (by decide) (fun c4 => ?_) (fun c4 => ?_)
          · have c4n : ((μ.1 8 (85 + 29 * a.toNatClampNeg + 19)).toNatClampNeg) ≤ k := by have q := (nI_leI (a := ((μ.1 8 (85 + 29 * a.toNatClampNeg + 19)).toNatClampNeg)) (b := k) (by omega) (by omega)); first | exact q.mp c4 | exact fun z => c4 (q.mpr z)
            refine lv_lload_n hx hb dX8_meanBits_57 rfl (lv_at hl 3 rfl) ?_
            refine lv_l2d hx hb dX8_meanBits_58 ?_
            refine lv_iload_n hx hb dX8_meanBits_59 rfl (lv_at hl 2 rfl) ?_
            refine lv_i2d hx hb dX8_meanBits_60 ?_
            refine lv_ddiv hx hb dX8_meanBits_61 (nn64 (mean1 c3)) ?_
            refine lv_ldc2d hx hb hf.2.2.2.1 (hf.2.2.2.2 _ q854) dX8_meanBits_62 ?_
            refine lv_ddiv hx hb dX8_meanBits_65 (nn64 (mean2 (mean1 c3))) ?_
            refine lv_dstore (lv' := [(5, .double (FP.ddiv (FP.ddiv (FP.l2d z) (FP.i2d (nI ((μ.1 8 (85 + 29 * a.toNatClampNeg + 19)).toNatClampNeg)))) ((4652007308841189376 : UInt64)))), (0, .ref (E.1 (232))), (1, .int (a)), (2, .int (nI ((μ.1 8 (85 + 29 * a.toNatClampNeg + 19)).toNatClampNeg))), (3, .long (z))]) hx hb dX8_meanBits_66 hl (by decide) rfl (fun ls hl => ?_)
            refine lv_dload hx hb dX8_meanBits_68 (lv_at hl 0 rfl) ?_
            refine lv_d2f hx hb dX8_meanBits_70 (nn32 (mean3 (mean2 (mean1 c3)))) ?_
            refine c_iR hw (run_S (As := [.float (FP.d2f (FP.ddiv (FP.ddiv (FP.l2d z) (FP.i2d (nI ((μ.1 8 (85 + 29 * a.toNatClampNeg + 19)).toNatClampNeg)))) ((4652007308841189376 : UInt64))))]) (rest := []) (np := 1) hf hw (k_Jxf58ca_floatToIntBits_5c35a l E _  (FP.d2f (FP.ddiv (FP.ddiv (FP.l2d z) (FP.i2d (nI ((μ.1 8 (85 + 29 * a.toNatClampNeg + 19)).toNatClampNeg)))) ((4652007308841189376 : UInt64))))  ) ⟨gl_S q855 q856 q857 q858, by decide +kernel⟩ ⟨rfl, rfl, Nat.le_of_ble_eq_true rfl, Nat.le_of_ble_eq_true rfl⟩ rfl hl.1 rfl (Nat.le_of_ble_eq_true rfl) dX8_meanBits_71 ⟨Nat.zero_le _, Nat.zero_le _⟩) (fun H locs hw => ?_)
            exact e_i hf hr hlocks hw rfl (congrArg (fun z => (z, μ)) ((hq).trans ((if_pos c4).trans rfl))) dX8_meanBits_74
          · have c4n : ¬ ((μ.1 8 (85 + 29 * a.toNatClampNeg + 19)).toNatClampNeg) ≤ k := by have q := (nI_leI (a := ((μ.1 8 (85 + 29 * a.toNatClampNeg + 19)).toNatClampNeg)) (b := k) (by omega) (by omega)); first | exact q.mp c4 | exact fun z => c4 (q.mpr z)
            refine lv_lload_n hx hb dX8_meanBits_37 rfl (lv_at hl 3 rfl) ?_
            refine lv_aload_n hx hb dX8_meanBits_38 rfl (lv_at hl 0 rfl) ?_
            refine lv_iload_n hx hb dX8_meanBits_39 rfl (lv_at hl 1 rfl) ?_
            refine fold_i (show a = nI (a.toNatClampNeg) from c1a.1) ?_
            refine lv_bipush (v := 20) hx hb dX8_meanBits_40 (by decide) ?_
            refine lv_iload hx hb dX8_meanBits_42 (lv_at hl 4 rfl) ?_
            refine lv_iadd hx hb dX8_meanBits_44 ?_
            refine fold_i (show (20 : Int32) + nI k = nI (20 + k) from nI_add (20) (k)) ?_
            refine c_iR hw (run_V (As := [.int (nI (a.toNatClampNeg)), .int (nI (20 + k))]) (rest := [.long (z)]) (np := 2) hf hw (kn_X8_of l E _  a.toNatClampNeg (20 + k)  (show a.toNatClampNeg < 6 from c1ab) (show 20 + k < 29 from (by omega))) ⟨gl_V q227 q228 q229 q5 q230, by decide +kernel⟩ ⟨rfl, rfl, Nat.le_of_ble_eq_true rfl, Nat.le_of_ble_eq_true rfl⟩ (by decide) (c_R E _) rfl rfl hl.1 rfl (Nat.le_of_ble_eq_true rfl) dX8_meanBits_45 ⟨Nat.zero_le _, Nat.zero_le _⟩) (fun H locs hw => ?_)
            refine lv_i2l hx hb dX8_meanBits_48 rfl ?_
            refine lv_ladd hx hb dX8_meanBits_49 ?_
            refine lv_lstore_n (lv' := [(3, .long (z + ((μ.1 8 (85 + 29 * a.toNatClampNeg + (20 + k))).toInt64))), (0, .ref (E.1 (232))), (1, .int (a)), (2, .int (nI ((μ.1 8 (85 + 29 * a.toNatClampNeg + 19)).toNatClampNeg))), (5, .int (nI k))]) hx hb dX8_meanBits_50 rfl hl (by decide) rfl (fun ls hl => ?_)
            refine lv_iinc (v := nI (k + 1)) (lv' := [(5, .int (nI (k + 1))), (3, .long (z + ((μ.1 8 (85 + 29 * a.toNatClampNeg + (20 + k))).toInt64))), (0, .ref (E.1 (232))), (1, .int (a)), (2, .int (nI ((μ.1 8 (85 + 29 * a.toNatClampNeg + 19)).toNatClampNeg)))]) hx hb dX8_meanBits_51 hl (k := 4) rfl (nI_1 _) (by decide) rfl (fun ls hl => ?_)
            refine lv_goto (tgt := 31) hx hb dX8_meanBits_54 (by decide) ?_
            exact ih (z + ((μ.1 8 (85 + 29 * a.toNatClampNeg + (20 + k))).toInt64)) (k + 1) (by omega) (by omega) (by omega) (((hq).trans ((if_neg c4).trans rfl))) _ _ _ (lv_sub hl [2, 3, 4, 1, 0] rfl) hw
      exact key_31 10 (0 : Int64) 0 (by omega) (by omega) (by omega) (((if_pos c1).trans ((if_neg c3).trans rfl))) _ _ _ (lv_sub hl [3, 4, 2, 1, 0] rfl) hw
    · have c3n : ((μ.1 8 (85 + 29 * a.toNatClampNeg + 19)).toNatClampNeg) = 0 := by have q := (nI_eq (a := ((μ.1 8 (85 + 29 * a.toNatClampNeg + 19)).toNatClampNeg)) (b := 0) (by omega) (by omega)); first | exact q.mp c3 | exact fun z => c3 (q.mpr z)
      refine lv_ldc hx hb hf.2.2.2.1 (hf.2.2.2.2 _ q242) dX8_meanBits_23 ?_
      exact e_i hf hr hlocks hw rfl (congrArg (fun z => (z, μ)) ((if_pos c1).trans ((if_pos c3).trans rfl))) dX8_meanBits_25
  · replace c1 := (bz_0 _).mp c1
    refine lv_ldc hx hb hf.2.2.2.1 (hf.2.2.2.2 _ q154) dX8_meanBits_8 ?_
    exact e_i hf hr hlocks hw rfl (congrArg (fun z => (z, μ)) ((if_neg c1).trans rfl)) dX8_meanBits_10
