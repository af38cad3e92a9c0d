/-! ===== floats: halving, doubling, the bits ===== -/
theorem nrm {w : UInt32} {X T : Nat} {n : Bool} (hw : w.toNat = (if n then 2147483648 else 0) + X * 8388608 + T) (h1 : 1 ≤ X) (h2 : X ≤ 254) (hT : T < 8388608) : FP.Core.val32 w = .fin n (8388608 + T) ((X : Int) - 150) := by
  have e1 : FP.Core.fieldE FP.Core.b32 w.toNat = X := by
    show w.toNat / 8388608 % 256 = X
    rw [hw]
    cases n
    · rw [if_neg (by decide)]; omega
    · rw [if_pos rfl]; omega
  have e2 : FP.Core.fieldT FP.Core.b32 w.toNat = T := by
    show w.toNat % 8388608 = T
    rw [hw]
    cases n
    · rw [if_neg (by decide)]; omega
    · rw [if_pos rfl]; omega
  have e3 : FP.Core.fieldS FP.Core.b32 w.toNat = n := by
    show (w.toNat / 8388608 / 256 % 2 == 1) = n
    rw [hw]
    cases n
    · rw [if_neg (by decide), show (0 + X * 8388608 + T) / 8388608 / 256 % 2 = 0 by omega]; rfl
    · rw [if_pos rfl, show (2147483648 + X * 8388608 + T) / 8388608 / 256 % 2 = 1 by omega]; rfl
  unfold FP.Core.val32 FP.Core.decode
  rw [e1, e2, e3, if_neg (show ¬ X = FP.Core.b32.exps - 1 by show ¬ X = 255; omega), if_neg (by omega)]
  show FP.Core.Datum.fin n (8388608 + T) ((-149 : Int) + ((X : Int) - 1)) = _
  congr 1
  omega
def Nr (w : UInt32) (X T : Nat) : Prop := w.toNat = X * 8388608 + T ∧ 1 ≤ X ∧ X ≤ 254 ∧ T < 8388608
theorem nr_v {w : UInt32} {X T : Nat} (h : Nr w X T) : FP.Core.val32 w = .fin false (8388608 + T) ((X : Int) - 150) := nrm (n := false) (by rw [h.1, if_neg (by decide)]; omega) h.2.1 h.2.2.1 h.2.2.2
theorem nr_nn {w : UInt32} {X T : Nat} (h : Nr w X T) : FP.Core.val32 w ≠ .nan := by rw [nr_v h]; exact FP.Core.Datum.noConfusion
/-- what has such a value is such a float -/
theorem nr_of {w : UInt32} {X T : Nat} (h1 : 1 ≤ X) (h2 : X ≤ 254) (hT : T < 8388608) (hv : FP.Core.val32 w = .fin false (8388608 + T) ((X : Int) - 150)) : Nr w X T := by
  have e : (UInt32.ofNat (X * 8388608 + T)).toNat = X * 8388608 + T := by
    rw [UInt32.toNat_ofNat']; exact Nat.mod_eq_of_lt (by omega)
  have hw' : Nr (UInt32.ofNat (X * 8388608 + T)) X T := ⟨e, h1, h2, hT⟩
  have ew : w = UInt32.ofNat (X * 8388608 + T) := FP.Core.val32_inj (by rw [hv]; exact FP.Core.Datum.noConfusion) (hv.trans (nr_v hw').symm)
  rw [ew]
  exact hw'
theorem v2 : FP.Core.val32 FP.fconst2 = .fin false 8388608 (-22) := by decide +kernel
theorem v1 : FP.Core.val32 FP.fconst1 = .fin false 8388608 (-23) := by decide +kernel
theorem v8 : FP.Core.val32 (1258291200 : UInt32) = .fin false 8388608 0 := by decide +kernel
theorem ft32 {X T : Nat} (h1 : 1 ≤ X) (h2 : X ≤ 254) (hT : T < 8388608) : FP.Core.fits FP.Core.b32 (.fin false (8388608 + T) ((X : Int) - 150)) := by
  have e1 : FP.Core.b32.qmin = -149 := by decide
  have e2 : FP.Core.b32.qmax = 104 := by decide
  refine ⟨?_, ?_, ?_, Or.inr ?_⟩
  · show 8388608 + T < 16777216; omega
  · rw [e1]; omega
  · rw [e2]; omega
  · show 8388608 ≤ 8388608 + T; omega
theorem nr_h {w : UInt32} {X T : Nat} (h : Nr w X T) (h2 : 2 ≤ X) : Nr (FP.fdiv w FP.fconst2) (X - 1) T := by
  refine nr_of (by omega) (by have := h.2.2.1; omega) h.2.2.2 ?_
  show FP.Core.val32 (FP.Core.fdiv w FP.fconst2) = _
  rw [FP.Core.val32_fdiv, nr_v h, v2]
  show FP.Core.quotient FP.Core.b32 (.fin false (8388608 + T) ((X : Int) - 150)) (.fin false 8388608 (-22)) = _
  simp only [FP.Core.quotient]
  rw [if_neg (by decide)]
  refine FP.Core.roundRatio_exact FP.Core.good_b32 (by decide) (ft32 (by omega) (by have := h.2.2.1; omega) h.2.2.2) ?_
  rw [show ((X : Int) - 150 - -22 - (((X - 1 : Nat) : Int) - 150)).toNat = 23 by omega, show (((X - 1 : Nat) : Int) - 150 - ((X : Int) - 150 - -22)).toNat = 0 by omega]
  rw [Nat.pow_zero, Nat.mul_one]
theorem nr_d {w : UInt32} {X T : Nat} (h : Nr w X T) (h2 : X ≤ 253) : Nr (FP.fmul w FP.fconst2) (X + 1) T := by
  refine nr_of (by omega) (by omega) h.2.2.2 ?_
  show FP.Core.val32 (FP.Core.fmul w FP.fconst2) = _
  rw [FP.Core.val32_fmul, nr_v h, v2]
  show FP.Core.roundRatio FP.Core.b32 (false != false) ((8388608 + T) * 8388608) 1 (((X : Int) - 150) + -22) = _
  refine FP.Core.roundRatio_exact FP.Core.good_b32 (by decide) (ft32 (by omega) (by omega) h.2.2.2) ?_
  rw [show (((X : Int) - 150) + -22 - (((X + 1 : Nat) : Int) - 150)).toNat = 0 by omega, show (((X + 1 : Nat) : Int) - 150 - (((X : Int) - 150) + -22)).toNat = 23 by omega]
  rw [Nat.pow_zero, Nat.mul_one, Nat.mul_one]
theorem nr_k {w : UInt32} {X T : Nat} (h : Nr w X T) : FP.Core.fkey w = ((X * 8388608 + T : Nat) : Int) := by
  have h4 := h.2.2.1
  have h5 := h.2.2.2
  unfold FP.Core.fkey
  rw [h.1, if_neg (by omega)]
theorem cmp_of {a b : UInt32} (ha : FP.Core.val32 a ≠ .nan) (hb : FP.Core.val32 b ≠ .nan) : FP.fcmp a b = some (compare (FP.Core.fkey a) (FP.Core.fkey b)) := FP.Core.fcmp_key ha hb
theorem cv_lt {x y : Int} {op : CmpOp} (h : x < y) : Op.cmpValue (some (compare x y)) op = -1 := by
  rw [show compare x y = .lt from (FP.Core.compare_lt_iff x y).mpr h]; rfl
theorem cv_eq {x y : Int} {op : CmpOp} (h : x = y) : Op.cmpValue (some (compare x y)) op = 0 := by
  rw [show compare x y = .eq from (FP.Core.compare_eq_iff x y).mpr h]; rfl
theorem cv_gt {x y : Int} {op : CmpOp} (h : y < x) : Op.cmpValue (some (compare x y)) op = 1 := by
  rw [show compare x y = .gt from (FP.Core.compare_gt_iff x y).mpr h]; rfl
theorem k2 : FP.Core.fkey FP.fconst2 = 1073741824 := by decide +kernel
theorem k1 : FP.Core.fkey FP.fconst1 = 1065353216 := by decide +kernel
theorem k0 : FP.Core.fkey FP.fconst0 = 0 := by decide +kernel
/-- less than two -/
theorem lt2 {w : UInt32} {X T : Nat} (h : Nr w X T) : Op.cmpValue (FP.fcmp w FP.fconst2) .l < 0 ↔ X < 128 := by
  have h5 := h.2.2.2
  rw [cmp_of (nr_nn h) (by rw [v2]; exact FP.Core.Datum.noConfusion), nr_k h, k2]
  by_cases c : X < 128
  · rw [cv_lt (by omega)]; exact ⟨fun _ => c, fun _ => by decide⟩
  · refine ⟨fun q => ?_, fun q => absurd q c⟩
    exfalso
    by_cases e : ((X * 8388608 + T : Nat) : Int) = 1073741824
    · rw [cv_eq e] at q; exact absurd q (by decide)
    · rw [cv_gt (by omega)] at q; exact absurd q (by decide)
theorem ge1 {w : UInt32} {X T : Nat} (h : Nr w X T) : (0 : Int32) ≤ Op.cmpValue (FP.fcmp w FP.fconst1) .g ↔ 127 ≤ X := by
  have h5 := h.2.2.2
  rw [cmp_of (nr_nn h) (by rw [v1]; exact FP.Core.Datum.noConfusion), nr_k h, k1]
  by_cases c : X < 127
  · rw [cv_lt (by omega)]; exact ⟨fun q => absurd q (by decide), fun q => by omega⟩
  · refine ⟨fun _ => by omega, fun _ => ?_⟩
    by_cases e : ((X * 8388608 + T : Nat) : Int) = 1065353216
    · rw [cv_eq e]; decide
    · rw [cv_gt (by omega)]; decide
/-- the fraction -/
theorem frc {w : UInt32} {T : Nat} (h : Nr w 127 T) : FP.f2i (FP.fmul (FP.fsub w FP.fconst1) (1258291200 : UInt32)) = nI T := by
  have hT := h.2.2.2
  have es : FP.Core.val32 (FP.Core.fsub w FP.fconst1) = FP.Core.round FP.Core.b32 (.fin false T (-23)) := by
    rw [FP.Core.val32_fsub, nr_v h, v1]
    show FP.Core.round FP.Core.b32 (.fin (FP.Core.sumSign false true (FP.Core.sumUnits false (8388608 + T) (127 - 150) true 8388608 (-23) (min (127 - 150) (-23)))) (FP.Core.sumUnits false (8388608 + T) (127 - 150) true 8388608 (-23) (min (127 - 150) (-23))).natAbs (min (127 - 150) (-23))) = _
    have eu : FP.Core.sumUnits false (8388608 + T) (127 - 150) true 8388608 (-23) (min (127 - 150) (-23)) = (T : Int) := by
      show ((((8388608 + T) * 2 ^ 0 : Nat) : Int)) + -(((8388608 * 2 ^ 0 : Nat) : Int)) = _
      omega
    rw [eu]
    have e1 : FP.Core.sumSign false true (T : Int) = false := by
      unfold FP.Core.sumSign
      by_cases z : (T : Int) = 0
      · rw [if_pos z]; rfl
      · rw [if_neg z]; exact decide_eq_false (by omega)
    rw [e1]
    rfl
  obtain ⟨c', q', e1, e2⟩ := FP.Core.round_exact FP.Core.good_b32 false (c := T) (q := -23) (show T < 16777216 by omega) (by decide) (by decide)
  have hq : FP.Core.fits FP.Core.b32 (.fin false c' q') := by rw [← e1]; exact FP.Core.round_fits FP.Core.good_b32 _
  have hq1 : (-149 : Int) ≤ q' := hq.2.1
  have e3 : c' * 2 ^ (q' + 149).toNat = T * 2 ^ 126 := by
    have := e2
    unfold FP.Core.inUnits at this
    rw [show FP.Core.b32.qmin = -149 by decide, show q' - -149 = q' + 149 by omega, show ((-23 : Int) - -149).toNat = 126 by decide] at this
    exact this
  apply FP.Core.f2i_int
  show FP.Core.Whole (nI T).toInt (FP.Core.val32 (FP.Core.fmul (FP.Core.fsub w FP.fconst1) 1258291200))
  rw [FP.Core.val32_fmul, es, e1, v8, nI_toInt (by omega)]
  refine FP.Core.whole_round FP.Core.good_b32 FP.Core.wide_b32 (by show ((T : Int)).natAbs ≤ 16777216; omega) ?_
  show FP.Core.signed (false != false) (c' * 8388608 * 2 ^ (q' + 0).toNat) = (T : Int) * ((2 ^ (-(q' + 0)).toNat : Nat) : Int)
  rw [Int.add_zero]
  show ((c' * 8388608 * 2 ^ q'.toNat : Nat) : Int) = _
  rw [← Int.natCast_mul]
  congr 1
  -- both sides times a power of two
  have key : c' * 8388608 * 2 ^ q'.toNat * 2 ^ (149 + 149) = T * 2 ^ (-q').toNat * 2 ^ (149 + 149) := by
    have a : (8388608 : Nat) = 2 ^ 23 := by decide
    have b1 : c' * 8388608 * 2 ^ q'.toNat * 2 ^ (149 + 149) = c' * 2 ^ (q' + 149).toNat * 2 ^ (23 + q'.toNat + (149 + 149) - (q' + 149).toNat) := by
      rw [a, Nat.mul_assoc c', Nat.mul_assoc c', Nat.mul_assoc c', ← Nat.pow_add, ← Nat.pow_add, ← Nat.pow_add]
      refine congrArg (fun z : Nat => c' * 2 ^ z) ?_
      omega
    have b2 : T * 2 ^ (-q').toNat * 2 ^ (149 + 149) = T * 2 ^ 126 * 2 ^ ((-q').toNat + (149 + 149) - 126) := by
      rw [Nat.mul_assoc T, Nat.mul_assoc T, ← Nat.pow_add, ← Nat.pow_add]
      refine congrArg (fun z : Nat => T * 2 ^ z) ?_
      omega
    rw [b1, b2, e3]
    refine congrArg (fun z : Nat => T * 2 ^ 126 * 2 ^ z) ?_
    omega
  exact Nat.eq_of_mul_eq_mul_right (Nat.two_pow_pos _) key
theorem or_t (X T : Nat) (hT : T < 8388608) : Int32.ofNat (X * 8388608) ||| nI T = Int32.ofNat (X * 8388608 + T) := by
  apply Int32.toBitVec_inj.mp
  apply BitVec.eq_of_toNat_eq
  show ((BitVec.ofNat 32 (X * 8388608)) ||| (BitVec.ofNat 32 T)).toNat = (BitVec.ofNat 32 (X * 8388608 + T)).toNat
  rw [BitVec.toNat_or, BitVec.toNat_ofNat, BitVec.toNat_ofNat, BitVec.toNat_ofNat, Nat.mod_eq_of_lt (show T < 2 ^ 32 by omega)]
  have e1 : X * 8388608 % 2 ^ 32 = (X % 512) * 2 ^ 23 := by omega
  have e2 : (X * 8388608 + T) % 2 ^ 32 = (X % 512) * 2 ^ 23 + T := by
    obtain ⟨a, b, hb, rfl⟩ : ∃ a b, b < 512 ∧ X = 512 * a + b := ⟨X / 512, X % 512, Nat.mod_lt _ (by decide), (Nat.div_add_mod X 512).symm⟩
    rw [show (512 * a + b) % 512 = b by omega, show (512 * a + b) * 8388608 + T = (b * 8388608 + T) + 4294967296 * a by omega, show (2 : Nat) ^ 32 = 4294967296 by decide, Nat.add_mul_mod_self_left, Nat.mod_eq_of_lt (by omega)]
  rw [e1, e2, ← Nat.shiftLeft_eq, Nat.shiftLeft_add_eq_or_of_lt (by omega)]
theorem sh_p : ∀ X, X < 255 → (0 : Int32) ||| (nI X <<< ((23 : Int32) &&& 31)) = Int32.ofNat (X * 8388608) := by decide +kernel
theorem sh_n : ∀ X, X < 255 → (-2147483648 : Int32) ||| (nI X <<< ((23 : Int32) &&& 31)) = Int32.ofNat ((256 + X) * 8388608) := by decide +kernel
theorem u2i (v : UInt32) : v.toInt32 = Int32.ofNat v.toNat := by
  apply Int32.toBitVec_inj.mp
  apply BitVec.eq_of_toNat_eq
  show v.toBitVec.toNat = (BitVec.ofNat 32 v.toNat).toNat
  rw [BitVec.toNat_ofNat]
  exact (Nat.mod_eq_of_lt v.toNat_lt).symm
/-- doubling -/
theorem dn_lp {v : UInt32} {T X0 : Nat} (h0 : 1 ≤ X0) (h0' : X0 ≤ 254) : ∀ (d f k X : Nat) (w : UInt32), Nr w X T → X + d = 127 → X0 ≤ X → k = X - X0 → d < f → ∃ w', Nr w' 127 T ∧ lp_X7_bitsOf_54 v f w (nI (127 - k)) k = (if (0 : Int32) ≤ Op.cmpValue (FP.fcmp v FP.fconst0) .g then (0 ||| (nI X0 <<< ((23 : Int32) &&& 31))) ||| (FP.f2i (FP.fmul (FP.fsub w' FP.fconst1) ((1258291200 : UInt32)))) else ((-2147483648) ||| (nI X0 <<< ((23 : Int32) &&& 31))) ||| (FP.f2i (FP.fmul (FP.fsub w' FP.fconst1) ((1258291200 : UInt32))))) := by
  intro d
  induction d with
  | zero =>
    intro f k X w hw hX hx hk hf
    obtain ⟨f, rfl⟩ : ∃ g, f = g + 1 := ⟨f - 1, by omega⟩
    have e : X = 127 := by omega
    subst e
    refine ⟨w, hw, ?_⟩
    unfold lp_X7_bitsOf_54
    rw [if_neg (by rw [show (150 : Int32) = nI 150 from rfl, nI_leI (by omega) (by omega)]; omega), if_pos ((ge1 hw).mpr (by omega)), show 127 - k = X0 by omega]
  | succ d ih =>
    intro f k X w hw hX hx hk hf
    obtain ⟨f, rfl⟩ : ∃ g, f = g + 1 := ⟨f - 1, by omega⟩
    obtain ⟨w', a, b⟩ := ih f (k + 1) (X + 1) (FP.fmul w FP.fconst2) (nr_d hw (by omega)) (by omega) (by omega) (by omega) (by omega)
    refine ⟨w', a, ?_⟩
    rw [← b]
    conv => lhs; unfold lp_X7_bitsOf_54
    rw [if_neg (by rw [show (150 : Int32) = nI 150 from rfl, nI_leI (by omega) (by omega)]; omega), if_neg (fun q => by have := (ge1 hw).mp q; omega), show 127 - k = (127 - (k + 1)) + 1 by omega, pk_m1]
/-- halving -/
theorem up_lp {v : UInt32} {T X0 : Nat} (h0 : 127 ≤ X0) (h0' : X0 ≤ 254) : ∀ (d f k X : Nat) (w : UInt32), Nr w X T → X = 127 + d → X ≤ X0 → k = X0 - X → d < f → ∃ w', Nr w' 127 T ∧ lp_X7_bitsOf_26 v f w (nI (127 + k)) k = lp_X7_bitsOf_54 v 151 w' (nI X0) 0 := by
  intro d
  induction d with
  | zero =>
    intro f k X w hw hX hx hk hf
    obtain ⟨f, rfl⟩ : ∃ g, f = g + 1 := ⟨f - 1, by omega⟩
    have e : X = 127 := by omega
    subst e
    refine ⟨w, hw, ?_⟩
    unfold lp_X7_bitsOf_26
    rw [if_neg (by rw [show (150 : Int32) = nI 150 from rfl, nI_leI (by omega) (by omega)]; omega), if_pos ((lt2 hw).mpr (by omega)), show 127 + k = X0 by omega]
  | succ d ih =>
    intro f k X w hw hX hx hk hf
    obtain ⟨f, rfl⟩ : ∃ g, f = g + 1 := ⟨f - 1, by omega⟩
    obtain ⟨w', a, b⟩ := ih f (k + 1) (X - 1) (FP.fdiv w FP.fconst2) (nr_h hw (by omega)) (by omega) (by omega) (by omega) (by omega)
    refine ⟨w', a, ?_⟩
    rw [← b]
    conv => lhs; unfold lp_X7_bitsOf_26
    rw [if_neg (by rw [show (150 : Int32) = nI 150 from rfl, nI_leI (by omega) (by omega)]; omega), if_neg (fun q => by have := (lt2 hw).mp q; omega), nI_1, show 127 + k + 1 = 127 + (k + 1) by omega]
theorem fin_bt {v w : UInt32} {X T : Nat} (hw : Nr w X T) : ∃ w', Nr w' 127 T ∧ lp_X7_bitsOf_26 v 151 w 127 0 = (if (0 : Int32) ≤ Op.cmpValue (FP.fcmp v FP.fconst0) .g then (0 ||| (nI X <<< ((23 : Int32) &&& 31))) ||| (FP.f2i (FP.fmul (FP.fsub w' FP.fconst1) ((1258291200 : UInt32)))) else ((-2147483648) ||| (nI X <<< ((23 : Int32) &&& 31))) ||| (FP.f2i (FP.fmul (FP.fsub w' FP.fconst1) ((1258291200 : UInt32))))) := by
  have h1 := hw.2.1
  have h2 := hw.2.2.1
  by_cases c : 127 ≤ X
  · obtain ⟨w', a, b⟩ := up_lp (v := v) c h2 (X - 127) 151 0 X w hw (by omega) (Nat.le_refl _) (by omega) (by omega)
    refine ⟨w', a, ?_⟩
    rw [show (127 : Int32) = nI (127 + 0) from rfl, b]
    unfold lp_X7_bitsOf_54
    rw [if_neg (by decide), if_pos ((ge1 a).mpr (by omega))]
  · obtain ⟨w', a, b⟩ := dn_lp (v := v) (X0 := X) h1 h2 (127 - X) 151 0 X w hw (by omega) (Nat.le_refl _) (by omega) (by omega)
    refine ⟨w', a, ?_⟩
    rw [← b]
    conv => lhs; unfold lp_X7_bitsOf_26
    rw [if_neg (by decide), if_pos ((lt2 hw).mpr (by omega))]
    rfl
/-- the class's bits of a float that is no subnormal, nor zero, nor infinite -/
theorem bits_n {v : UInt32} (h1 : 8388608 ≤ v.toNat % 2147483648) (h2 : v.toNat % 2147483648 < 2139095040) : sp_X7_bitsOf v = v.toInt32 := by
  have hv := v.toNat_lt
  obtain ⟨X, T, hX1, hX2, hT, e⟩ : ∃ X T, 1 ≤ X ∧ X ≤ 254 ∧ T < 8388608 ∧ v.toNat % 2147483648 = X * 8388608 + T := ⟨v.toNat % 2147483648 / 8388608, v.toNat % 8388608, by omega, by omega, by omega, by omega⟩
  unfold sp_X7_bitsOf
  rw [u2i]
  by_cases c : v.toNat < 2147483648
  · have hw : Nr v X T := ⟨by omega, hX1, hX2, hT⟩
    have ec : ∀ op, Op.cmpValue (FP.fcmp v FP.fconst0) op = 1 := fun op => by
      rw [cmp_of (nr_nn hw) (by decide +kernel), nr_k hw, k0]
      exact cv_gt (by omega)
    obtain ⟨w', a, b⟩ := fin_bt (v := v) hw
    rw [ec, if_neg (by decide), ec, if_pos (by decide), b, ec, if_pos (by decide), frc a, sh_p X (by omega), or_t X T hT, hw.1]
  · have ev : v.toNat = 2147483648 + X * 8388608 + T := by omega
    have vv : FP.Core.val32 v = .fin true (8388608 + T) ((X : Int) - 150) := nrm (n := true) (by rw [ev, if_pos rfl]) hX1 hX2 hT
    have hw : Nr (FP.fneg v) X T := nr_of hX1 hX2 hT (by
      rw [FP.val32_fneg, vv]
      rfl)
    have ec : ∀ op, Op.cmpValue (FP.fcmp v FP.fconst0) op = -1 := fun op => by
      rw [cmp_of (by rw [vv]; exact FP.Core.Datum.noConfusion) (by decide +kernel), k0]
      refine cv_lt ?_
      unfold FP.Core.fkey
      rw [if_pos (by omega)]
      omega
    obtain ⟨w', a, b⟩ := fin_bt (v := v) hw
    rw [ec, if_neg (by decide), ec, if_neg (by decide), b, ec, if_neg (by decide), frc a, sh_n X (by omega), or_t (256 + X) T hT, ev]
    congr 1
    omega
