/-! ===== floats: what is no number does not come up ===== -/
theorem nn64 {r : UInt64} (h : FP.Core.dIsNaN r = false) : vf_n64 r := by
  have q := (FP.Core.ne_nan r).mp ((FP.Core.notNaN_iff r).mp h)
  unfold vf_n64
  rw [UInt64.le_iff_toNat_le, UInt64.toNat_and, show (0x7fffffffffffffff : UInt64).toNat = 2 ^ 63 - 1 by decide, Nat.and_two_pow_sub_one_eq_mod]
  exact q
theorem nn32 {r : UInt32} (h : FP.Core.fIsNaN r = false) : vf_n32 r := by
  have q := (FP.Core.ne_nan32 r).mp ((FP.Core.notNaN_iff32 r).mp h)
  unfold vf_n32
  rw [UInt32.le_iff_toNat_le, UInt32.toNat_and, show (0x7fffffff : UInt32).toNat = 2 ^ 31 - 1 by decide, Nat.and_two_pow_sub_one_eq_mod]
  exact q
theorem fin_nn {a : UInt64} (h : FP.Core.DFin a) : FP.Core.dIsNaN a = false := (FP.Core.notNaN_iff a).mpr ((FP.Core.ne_nan a).mpr (Nat.le_of_lt ((FP.Core.fin_bits a).mp h)))
theorem mean1 {z : Int64} {k : Int32} (hk : k ≠ 0) : FP.Core.dIsNaN (FP.Core.ddiv (FP.Core.l2d z) (FP.Core.i2d k)) = false :=
  FP.Core.ddiv_out (fin_nn (FP.Core.l2d_fin z)) (FP.Core.i2d_fin k) (fun q => FP.Core.i2d_ne_zero hk ((FP.Core.zero_bits2 _).mp q))
theorem mean2 {a : UInt64} (h : FP.Core.dIsNaN a = false) : FP.Core.dIsNaN (FP.Core.ddiv a 4652007308841189376) = false :=
  FP.Core.ddiv_out h ((FP.Core.fin_bits _).mpr (by decide)) (fun q => absurd ((FP.Core.zero_bits2 _).mp q) (by decide))
theorem mean3 {a : UInt64} (h : FP.Core.dIsNaN a = false) : FP.fIsNaN (FP.d2f a) = false := (FP.d2f_nan a).trans h
/-- as mt_of, for a class some of whose other methods have an entry of their own -/
theorem mt_ofF {l : Launch} {E : En} {μ : Mu} {y : MethodName} {cc : ByteArray} {n : Nat} {ret : Option FieldType} {rm : Room} {av : List Value} {Qc : Array Value → State → Outcome → State → Prop} (hy : plainFor y = true) (hlen : ((lg_sl av).length ≤ n)) (body : Body l y cc n ret rm av E μ Qc) : Met l y (wsM y cc n ret) rm (va_Pc av (WdU E μ)) Qc 0 0 (inE E) := by
  refine MetFree.of_bodySF (code := cc) (maxLocals := n) (ret := ret) hy ?_ ?_
  · intro args s m h hn
    obtain ⟨meth, c, h1, h2, h3, h4, h5, h6, -, -⟩ := Cond.code_spec hn (atoms_spec (ws := wsM y cc n ret) h _ List.mem_cons_self)
    exact ⟨meth, c, h1, h2, h3, h4, h5, h6⟩
  · intro p e s m args below meth c s₁ B hml hv _
    obtain ⟨rfl, hw⟩ := hv
    have hts := atoms_spec (ws := wsM y cc n ret) B.pre
    have hown : s.vm.findClass y.cls = some m.cls := findClass_of_methodNamed B.named
    have hl := lv_entry av (n := n) hlen
    have hh0 : s₁.heap = s.heap := by rw [B.state]; rfl
    have X0 := Stand.of_body B
    have key := body p e s m _ below meth c _ ⟨B.exec, B.bytes, hml, hown, fun w h => hts w (List.mem_cons_of_mem _ h)⟩ B.returns B.notSynchronized hl (WdU_Wk hw)
    rw [lg_entry_eq]
    obtain ⟨t, a1, o, b1, b2, b3, b4⟩ := key s₁ hh0 X0
    exact ⟨t, o, a1, b1, b2, b3, b4⟩
def sp_Jxf58ca_isNaN_12338   (x : UInt32) : Int32 :=
  if (Op.cmpValue (FP.fcmp x x) .l : Int32) = 0 then
    0
  else
    1
set_option maxHeartbeats 4000000 in
set_option maxRecDepth 100000 in
theorem k_Jxf58ca_isNaN_12338 (l : Launch) (E : En) (μ : Mu)  (x : UInt32)  : MtI l yJxf58ca_isNaN_12338 cJxf58ca_isNaN_12338 1 .boolean ({ frames := 0, cells := 0, slots := 0, locals := 0 }) [.float (x)] E μ ((sp_Jxf58ca_isNaN_12338  x), μ) := by
  refine mt_ofF (by decide +kernel) (Nat.le_of_ble_eq_true rfl) ?_
  intro p e s m args below meth c ls hf hr hlocks hl hw
  have hx := hf.1
  have hb := hf.2.1
  have hl : lv_has ls 1 [(0, .float (x))] := hl
  refine lv_fload_n hx hb dJxf58ca_isNaN_12338_0 rfl (lv_at hl 0 rfl) ?_
  refine lv_fload_n hx hb dJxf58ca_isNaN_12338_1 rfl (lv_at hl 0 rfl) ?_
  refine lv_fcmp hx hb dJxf58ca_isNaN_12338_2 ?_
  refine lv_if_eq (tgt := 10) hx hb dJxf58ca_isNaN_12338_3 (by decide) (fun c1 => ?_) (fun c1 => ?_)
  · refine lv_iconst (v := 0) hx hb dJxf58ca_isNaN_12338_10 (by decide) ?_
    exact e_i hf hr hlocks hw rfl (congrArg (fun z => (z, μ)) ((if_pos c1).trans rfl)) dJxf58ca_isNaN_12338_11
  · refine lv_iconst (v := 1) hx hb dJxf58ca_isNaN_12338_6 (by decide) ?_
    refine lv_goto (tgt := 11) hx hb dJxf58ca_isNaN_12338_7 (by decide) ?_
    exact e_i hf hr hlocks hw rfl (congrArg (fun z => (z, μ)) ((if_neg c1).trans rfl)) dJxf58ca_isNaN_12338_11
def sp_Jxf58ca_floatToIntBits_5c35a   (x : UInt32) : Int32 :=
  if (sp_Jxf58ca_isNaN_12338   x : Int32) = 0 then
    x.toInt32
  else
    2143289344
set_option maxHeartbeats 4000000 in
set_option maxRecDepth 100000 in
theorem k_Jxf58ca_floatToIntBits_5c35a (l : Launch) (E : En) (μ : Mu)  (x : UInt32)  : MtI l yJxf58ca_floatToIntBits_5c35a cJxf58ca_floatToIntBits_5c35a 1 .int ({ frames := 1, cells := 0, slots := 0, locals := 20 }) [.float (x)] E μ ((sp_Jxf58ca_floatToIntBits_5c35a  x), μ) := by
  refine mt_ofF (by decide +kernel) (Nat.le_of_ble_eq_true rfl) ?_
  intro p e s m args below meth c ls hf hr hlocks hl hw
  have hx := hf.1
  have hb := hf.2.1
  have hl : lv_has ls 1 [(0, .float (x))] := hl
  refine lv_fload_n hx hb dJxf58ca_floatToIntBits_5c35a_0 rfl (lv_at hl 0 rfl) ?_
  refine c_iR hw (run_S (As := [.float (x)]) (rest := []) (np := 1) hf hw (k_Jxf58ca_isNaN_12338 l E _  x  ) ⟨gl_S q864 q865 q857 q866, by decide +kernel⟩ ⟨rfl, rfl, Nat.le_of_ble_eq_true rfl, Nat.le_of_ble_eq_true rfl⟩ rfl hl.1 rfl (Nat.le_of_ble_eq_true rfl) dJxf58ca_floatToIntBits_5c35a_1 ⟨Nat.zero_le _, Nat.zero_le _⟩) (fun H locs hw => ?_)
  refine lv_if_ne (tgt := 12) hx hb dJxf58ca_floatToIntBits_5c35a_4 (by decide) (fun c1 => ?_) (fun c1 => ?_)
  · refine lv_ldc hx hb hf.2.2.2.1 (hf.2.2.2.2 _ q863) dJxf58ca_floatToIntBits_5c35a_12 ?_
    exact e_i hf hr hlocks hw rfl (congrArg (fun z => (z, μ)) ((if_neg c1).trans rfl)) dJxf58ca_floatToIntBits_5c35a_14
  · refine lv_fload_n hx hb dJxf58ca_floatToIntBits_5c35a_7 rfl (lv_at hl 0 rfl) ?_
    refine vn_f2i hx hb (hf.2.2.1.trans hl.1.symm) hf.2.2.2.1 (hf.2.2.2.2 _ q859) (hf.2.2.2.2 _ q860) (hf.2.2.2.2 _ q861) (hf.2.2.2.2 _ q862) (Nat.le_of_ble_eq_true rfl) (Nat.le_of_ble_eq_true rfl) dJxf58ca_floatToIntBits_5c35a_8 ?_
    exact e_i hf hr hlocks hw rfl (congrArg (fun z => (z, μ)) ((if_pos c1).trans rfl)) dJxf58ca_floatToIntBits_5c35a_11
