/-! ===== means ===== -/
theorem p2le {a b : Nat} (h : a ≤ b) : 2 ^ a ≤ 2 ^ b := Nat.pow_le_pow_right (by decide) h
theorem ddiv_ge {a b : UInt64} {Ka L K : Nat} (h1 : 1 ≤ Ka) (ha : Ka * 2 ^ 52 ≤ a.toNat % 2 ^ 63) (ha2 : a.toNat % 2 ^ 63 < 9218868437227405312) (hL : 1 ≤ L) (hb : b.toNat % 2 ^ 63 ≤ L * 2 ^ 52) (hb0 : b.toNat % 2 ^ 63 ≠ 0) (hL2 : L ≤ 2046) (hK : 1 ≤ K) (hK2 : K ≤ 2047) (h : K + L ≤ Ka + 1023) : K * 2 ^ 52 ≤ (FP.Core.ddiv a b).toNat % 2 ^ 63 := by
  have hq : FP.Core.b64.qmin = -1074 := FP.Core.qmin_b64
  have hbf : FP.Core.mag FP.Core.b64 b.toNat < FP.Core.infBits FP.Core.b64 := by
    rw [FP.Core.mag_toNat64, FP.Core.infBits_b64]
    omega
  obtain ⟨s, c, q, x1, x2, x3⟩ := FP.Core.fin_of_mag FP.Core.good_b64 (n := a.toNat) (by rw [FP.Core.mag_toNat64, FP.Core.infBits_b64]; exact ha2)
  obtain ⟨t, d, r, y1, y2, y3⟩ := FP.Core.fin_of_mag FP.Core.good_b64 hbf
  have hd0 : d ≠ 0 := by
    rintro rfl
    have e : FP.Core.zmag FP.Core.b64 (.fin t 0 r) = 0 := Nat.zero_mul _
    rw [y3, FP.Core.unitsOf_eq_zero, FP.Core.mag_toNat64] at e
    exact hb0 e
  have hd : FP.Core.decode FP.Core.b64 (FP.Core.div FP.Core.b64 a.toNat b.toNat) = FP.Core.roundRatio FP.Core.b64 (s != t) c d (q - r) := by
    unfold FP.Core.div
    rw [FP.Core.decode_enc FP.Core.good_b64 (FP.Core.quotient_fits FP.Core.good_b64 _ _), x1, y1]
    simp only [FP.Core.quotient, if_neg hd0]
  have hx1 := x2.2.1
  have hy1 := y2.2.1
  rw [hq] at hx1 hy1
  have hm := FP.Core.mag_ge FP.Core.good_b64 (m := K * FP.Core.b64.tails) hd (Nat.pos_of_ne_zero hd0) (e0 := 2 * FP.Core.b64.qmin - r) (by rw [hq]; omega) (by rw [hq]; omega) (Nat.mul_le_mul_right _ (by rw [FP.Core.exps_b64]; exact hK2)) (by
    have e1 : FP.Core.inUnits c (q - r) (2 * FP.Core.b64.qmin - r) = FP.Core.zmag FP.Core.b64 (.fin s c q) * 2 ^ 1074 := by
      show c * 2 ^ (q - r - (2 * FP.Core.b64.qmin - r)).toNat = c * 2 ^ (q - FP.Core.b64.qmin).toNat * 2 ^ 1074
      rw [Nat.mul_assoc, ← Nat.pow_add, hq]
      exact congrArg (fun z : Nat => c * 2 ^ z) (by omega)
    have e2 : 2 ^ (FP.Core.b64.qmin - (2 * FP.Core.b64.qmin - r)).toNat * d = FP.Core.zmag FP.Core.b64 (.fin t d r) := by
      show _ = d * 2 ^ (r - FP.Core.b64.qmin).toNat
      rw [Nat.mul_comm, hq]
      exact congrArg (fun z : Nat => d * 2 ^ z) (by omega)
    rw [FP.Core.unitsOf_start hK, e1, Nat.mul_assoc, e2, x3, y3]
    have l1 : FP.Core.unitsOf FP.Core.b64 (FP.Core.mag FP.Core.b64 b.toNat) ≤ FP.Core.b64.tails * 2 ^ (L - 1) := by
      rw [← FP.Core.unitsOf_start hL]
      exact FP.Core.unitsOf_le_iff.mpr (by rw [FP.Core.mag_toNat64, FP.Core.tails_b64]; exact hb)
    have l2 : FP.Core.b64.tails * 2 ^ (Ka - 1) ≤ FP.Core.unitsOf FP.Core.b64 (FP.Core.mag FP.Core.b64 a.toNat) := by
      rw [← FP.Core.unitsOf_start h1]
      exact FP.Core.unitsOf_le_iff.mpr (by rw [FP.Core.mag_toNat64, FP.Core.tails_b64]; exact ha)
    refine Nat.le_trans (Nat.mul_le_mul_left _ l1) (Nat.le_trans ?_ (Nat.mul_le_mul_right _ l2))
    rw [FP.Core.tails_b64, Nat.mul_assoc, Nat.mul_assoc, ← Nat.pow_add, ← Nat.pow_add, ← Nat.pow_add, ← Nat.pow_add, ← Nat.pow_add]
    refine p2le ?_
    clear l1 l2 x1 x2 x3 y1 y2 y3 hd hd0 hbf ha ha2 hb hb0
    omega)
  have e3 : (FP.Core.ddiv a b).toNat = FP.Core.div FP.Core.b64 a.toNat b.toNat := FP.Core.toNat_of64 (FP.Core.quotient_fits FP.Core.good_b64 _ _)
  rw [← e3, FP.Core.mag_toNat64, FP.Core.tails_b64] at hm
  exact hm
theorem d2f_bd {a : UInt64} (h1 : 1009 * 2 ^ 52 ≤ a.toNat % 2 ^ 63) (h2 : a.toNat % 2 ^ 63 ≤ 1052 * 2 ^ 52) : 8388608 ≤ (FP.d2f a).toNat % 2147483648 ∧ (FP.d2f a).toNat % 2147483648 < 2139095040 := by
  have hinf : a.toNat % 2 ^ 63 < 9218868437227405312 := by omega
  have hn : FP.Core.dIsNaN a = false := (FP.Core.notNaN_iff a).mpr ((FP.Core.ne_nan a).mpr (Nat.le_of_lt hinf))
  have e0 : FP.d2f a = FP.Core.d2f a := by
    unfold FP.d2f
    rw [hn]
    rfl
  rw [e0]
  obtain ⟨s, c, q, x1, x2, x3⟩ := FP.Core.fin_of_mag FP.Core.good_b64 (n := a.toNat) (by rw [FP.Core.mag_toNat64, FP.Core.infBits_b64]; exact hinf)
  have hd : FP.Core.decode FP.Core.b32 (FP.Core.d2f a).toNat = FP.Core.roundRatio FP.Core.b32 s c 1 q := by
    have q1 := FP.Core.val32_d2f a
    rw [show FP.Core.val64 a = .fin s c q from x1] at q1
    exact q1
  have hx1 := x2.2.1
  rw [FP.Core.qmin_b64] at hx1
  have eu : FP.Core.inUnits c q (-1074) = FP.Core.unitsOf FP.Core.b64 (FP.Core.mag FP.Core.b64 a.toNat) := by
    rw [← x3]
    show c * 2 ^ (q - -1074).toNat = c * 2 ^ (q - FP.Core.b64.qmin).toNat
    rw [FP.Core.qmin_b64]
  have lo := FP.Core.mag_ge FP.Core.good_b32 (m := 113 * FP.Core.b32.tails) hd (by decide) (e0 := -1074) (by rw [FP.Core.qmin_b32]; decide) hx1 (Nat.mul_le_mul_right _ (by rw [FP.Core.exps_b32]; decide)) (by
    rw [FP.Core.unitsOf_start (by decide), eu, Nat.mul_one, FP.Core.qmin_b32, FP.Core.tails_b32]
    have l2 : FP.Core.b64.tails * 2 ^ (1009 - 1) ≤ FP.Core.unitsOf FP.Core.b64 (FP.Core.mag FP.Core.b64 a.toNat) := by
      rw [← FP.Core.unitsOf_start (by decide)]
      exact FP.Core.unitsOf_le_iff.mpr (by rw [FP.Core.mag_toNat64, FP.Core.tails_b64]; exact h1)
    refine Nat.le_trans ?_ l2
    rw [FP.Core.tails_b64, ← Nat.pow_add, ← Nat.pow_add, ← Nat.pow_add]
    exact p2le (by decide))
  have hi := FP.Core.mag_le FP.Core.good_b32 (m := 156 * FP.Core.b32.tails) hd (by decide) (e0 := -1074) (by rw [FP.Core.qmin_b32]; decide) hx1 (by
    rw [FP.Core.unitsOf_start (by decide), eu, Nat.mul_one, FP.Core.qmin_b32, FP.Core.tails_b32]
    have l2 : FP.Core.unitsOf FP.Core.b64 (FP.Core.mag FP.Core.b64 a.toNat) ≤ FP.Core.b64.tails * 2 ^ (1052 - 1) := by
      rw [← FP.Core.unitsOf_start (by decide)]
      exact FP.Core.unitsOf_le_iff.mpr (by rw [FP.Core.mag_toNat64, FP.Core.tails_b64]; exact h2)
    refine Nat.le_trans l2 ?_
    rw [FP.Core.tails_b64, ← Nat.pow_add, ← Nat.pow_add, ← Nat.pow_add]
    exact p2le (by decide))
  rw [FP.Core.mag_toNat32, FP.Core.tails_b32] at lo hi
  omega
abbrev mF (z : Int64) (k : Int32) : UInt32 := FP.d2f (FP.ddiv (FP.ddiv (FP.l2d z) (FP.i2d k)) ((4652007308841189376 : UInt64)))
theorem mF_bd {z : Int64} {k : Nat} (hz : z.toInt ≠ 0) (hz2 : z.toInt.natAbs ≤ 2 ^ 35) (hk : 1 ≤ k) (hk2 : k ≤ 9) : 8388608 ≤ (mF z (nI k)).toNat % 2147483648 ∧ (mF z (nI k)).toNat % 2147483648 < 2139095040 := by
  have ki : (nI k).toInt = (k : Int) := nI_toInt (by omega)
  have a1 := FP.Core.fromInt_ge (FP.Core.toNat_l2d z) hz
  have a2 := FP.Core.fromInt_mag (FP.Core.toNat_l2d z) (j := 35) (K := 1058) hz2 (by decide) (by decide)
  have b1 := FP.Core.fromInt_ge (FP.Core.toNat_i2d (nI k)) (by rw [ki]; omega)
  have b2 := FP.Core.fromInt_mag (FP.Core.toNat_i2d (nI k)) (j := 4) (K := 1027) (by rw [ki]; omega) (by decide) (by decide)
  have c1 := ddiv_ge (a := FP.Core.l2d z) (b := FP.Core.i2d (nI k)) (Ka := 1023) (L := 1027) (K := 1019) (by decide) (by omega) (by omega) (by decide) b2 (by omega) (by decide) (by decide) (by decide) (by decide)
  have c2 := FP.Core.ddiv_mag (a := FP.Core.l2d z) (b := FP.Core.i2d (nI k)) (K := 1059) (L := 1023) (by omega) (by omega) (by omega) (by decide) (by decide)
  have k1 : (4652007308841189376 : UInt64).toNat % 2 ^ 63 = 4652007308841189376 := by decide
  have d1 := ddiv_ge (a := FP.Core.ddiv (FP.Core.l2d z) (FP.Core.i2d (nI k))) (b := 4652007308841189376) (Ka := 1019) (L := 1033) (K := 1009) (by decide) c1 (by omega) (by decide) (by rw [k1]; decide) (by rw [k1]; decide) (by decide) (by decide) (by decide) (by decide)
  have d2 := FP.Core.ddiv_mag (a := FP.Core.ddiv (FP.Core.l2d z) (FP.Core.i2d (nI k))) (b := 4652007308841189376) (K := 1060) (L := 1032) (by omega) (by rw [k1]; decide) (by rw [k1]; decide) (by decide) (by decide)
  exact d2f_bd d1 (by
    have : (1060 + (1074 - 52 - 1) - 1032 + 3) = 1052 := by decide
    rw [this] at d2
    exact Nat.le_of_lt d2)
theorem mF_0 : ∀ k, k < 10 → 1 ≤ k → mF 0 (nI k) = 0 := by decide +kernel
theorem fib {v : UInt32} (h : v.toNat % 2147483648 < 2139095040) : sp_Jxf58ca_floatToIntBits_5c35a v = v.toInt32 := by
  have hn : FP.Core.val32 v ≠ .nan := (FP.Core.ne_nan32 v).mpr (Nat.le_of_lt h)
  have e : FP.fcmp v v = some .eq := FP.Core.fcmp_self hn
  have e2 : sp_Jxf58ca_isNaN_12338 v = 0 := by
    unfold sp_Jxf58ca_isNaN_12338
    rw [e]
    rfl
  unfold sp_Jxf58ca_floatToIntBits_5c35a
  rw [e2, if_pos rfl]
theorem bits_0 : sp_X7_bitsOf 0 = 0 := by decide +kernel
theorem mb_eq {z : Int64} {k : Nat} (hz2 : z.toInt.natAbs ≤ 2 ^ 35) (hk : 1 ≤ k) (hk2 : k ≤ 9) : sp_X7_bitsOf (mF z (nI k)) = sp_Jxf58ca_floatToIntBits_5c35a (mF z (nI k)) := by
  by_cases c : z.toInt = 0
  · have e : z = 0 := Int64.toInt_inj.mp (by rw [c]; rfl)
    rw [e, mF_0 k (by omega) hk, bits_0, fib (by decide)]
    rfl
  · obtain ⟨a, b⟩ := mF_bd c hz2 hk hk2
    rw [bits_n a b, fib b]
/-- sums, from either end -/
def sm (f : Nat → Int64) : Nat → Int64
  | 0 => 0
  | n + 1 => sm f n + f n
theorem sm_hd (f : Nat → Int64) : ∀ n, sm f (n + 1) = f 0 + sm (fun i => f (i + 1)) n := by
  intro n
  induction n with
  | zero => show 0 + f 0 = f 0 + 0; rw [Int64.zero_add, Int64.add_zero]
  | succ n ih =>
    show sm f (n + 1) + f (n + 1) = f 0 + (sm (fun i => f (i + 1)) n + f (n + 1))
    rw [ih, Int64.add_assoc]
theorem sm_rev : ∀ (n : Nat) (r l : Nat → Int64), (∀ i, i < n → r i = l (n - 1 - i)) → sm r n = sm l n := by
  intro n
  induction n with
  | zero => intro r l _; rfl
  | succ n ih =>
    intro r l h
    rw [sm_hd l n]
    show sm r n + r n = _
    rw [ih r (fun i => l (i + 1)) (fun i hi => by rw [h i (by omega), show n + 1 - 1 - i = n - 1 - i + 1 by omega]), h n (by omega), show n + 1 - 1 - n = 0 by omega, Int64.add_comm]
theorem sm_bd {f : Nat → Int32} : ∀ n : Nat, n ≤ 9 → -((n : Int) * 2147483648) ≤ (sm (fun i => (f i).toInt64) n).toInt ∧ (sm (fun i => (f i).toInt64) n).toInt ≤ (n : Int) * 2147483648 := by
  intro n
  induction n with
  | zero => intro _; exact ⟨Int.le_refl 0, Int.le_refl 0⟩
  | succ n ih =>
    intro hn
    obtain ⟨a, b⟩ := ih (by omega)
    have c := Int32.toInt_lt (f n)
    have d := Int32.le_toInt (f n)
    show _ ≤ (sm (fun i => (f i).toInt64) n + (f n).toInt64).toInt ∧ (sm (fun i => (f i).toInt64) n + (f n).toInt64).toInt ≤ _
    rw [Int64.toInt_add, Int32.toInt_toInt64, L_of _ (by omega)]
    omega
theorem mn_c {g : Nat → Int32} {a : Int32} {n kp : Nat} (hkp : kp ≤ 9) (hk : sp_X3_keptReadings g n = nI kp) : ∀ (d k f : Nat), k + d = kp → f + k = 10 → lp_X7_meanBits_34 g a n f (sm (fun i => (g (sF n (19 + i))).toInt64) k) k = sp_X7_bitsOf (mF (sm (fun i => (g (sF n (19 + i))).toInt64) kp) (nI kp)) := by
  intro d
  induction d with
  | zero =>
    intro k f h1 h2
    obtain ⟨f, rfl⟩ : ∃ g, f = g + 1 := ⟨f - 1, by omega⟩
    unfold lp_X7_meanBits_34
    rw [hk, if_pos (by rw [nI_leI (by omega) (by omega)]; omega), show k = kp by omega]
  | succ d ih =>
    intro k f h1 h2
    obtain ⟨f, rfl⟩ : ∃ g, f = g + 1 := ⟨f - 1, by omega⟩
    rw [← ih (k + 1) f (by omega) (by omega)]
    conv => lhs; unfold lp_X7_meanBits_34
    rw [hk, if_neg (by rw [nI_leI (by omega) (by omega)]; omega), rdg_j (by omega)]
    rfl
theorem mn_r {s : Nat → Int32} {a : Int32} {n kp : Nat} (hna : a.toNatClampNeg = n) (hkp : kp ≤ 9) (hk : s (85 + 29 * n + 19) = nI kp) : ∀ (d k f : Nat), k + d = kp → f + k = 10 → lp_X8_meanBits_31 s a f (sm (fun i => (s (85 + 29 * n + (20 + i))).toInt64) k) k = sp_Jxf58ca_floatToIntBits_5c35a (mF (sm (fun i => (s (85 + 29 * n + (20 + i))).toInt64) kp) (nI kp)) := by
  intro d
  induction d with
  | zero =>
    intro k f h1 h2
    obtain ⟨f, rfl⟩ : ∃ g, f = g + 1 := ⟨f - 1, by omega⟩
    unfold lp_X8_meanBits_31
    rw [hna, hk, nI_clamp (by omega), if_pos (by rw [nI_leI (by omega) (by omega)]; omega), show k = kp by omega]
  | succ d ih =>
    intro k f h1 h2
    obtain ⟨f, rfl⟩ : ∃ g, f = g + 1 := ⟨f - 1, by omega⟩
    rw [← ih (k + 1) f (by omega) (by omega)]
    conv => lhs; unfold lp_X8_meanBits_31
    rw [hna, hk, nI_clamp (by omega), if_neg (by rw [nI_leI (by omega) (by omega)]; omega)]
    rfl
theorem st_meanBits {B : Nat} {μ : Mu} (h : Inv B μ) (hB : B < 2 ^ 30) (a : Int32) : Stq B (sp_X7_meanBits (μ.1 0) a, μ) (fun m => (sp_X8_meanBits (m.1 8) a, m)) := by
  have hS := h.1
  refine stq_rd h ?_
  have key : sp_X8_meanBits (μ.1 8) a = sp_X7_meanBits (μ.1 0) a := by
    unfold sp_X7_meanBits sp_X8_meanBits
    rw [senI hS]
    by_cases c : 0 ≤ a ∧ a ≤ μ.1 8 1 - 1
    · rw [if_pos c, if_pos c]
      obtain ⟨-, hn⟩ := sen_lt hS c
      generalize hna : a.toNatClampNeg = n at *
      obtain ⟨r, -, -, a3, a4, a5⟩ := kept_eq hS hB hn
      show _ = (if sp_X3_keptReadings (μ.1 0) n = 0 then _ else _)
      generalize hkp : min r 9 = kp at *
      rw [a3, a4, nI_clamp (by omega)]
      by_cases z : kp = 0
      · subst z; rw [if_pos (show nI 0 = 0 from rfl), if_pos (show nI 0 = 0 from rfl)]
      · rw [if_neg (nI_ne0 (by omega) (by omega)), if_neg (nI_ne0 (by omega) (by omega))]
        have e1 := mn_c (g := μ.1 0) (a := a) (n := n) (kp := kp) (by omega) a4 kp 0 10 (by omega) rfl
        have e2 := mn_r (s := μ.1 8) (a := a) (n := n) (kp := kp) hna (by omega) a3 kp 0 10 (by omega) rfl
        have er : sm (fun i => (μ.1 0 (sF n (19 + i))).toInt64) kp = sm (fun i => (μ.1 8 (85 + 29 * n + (20 + i))).toInt64) kp := by
          refine sm_rev kp _ _ (fun i hi => ?_)
          show (μ.1 0 (sF n (19 + i))).toInt64 = (μ.1 8 (85 + 29 * n + (20 + (kp - 1 - i)))).toInt64
          rw [a5 i hi, show 19 + kp - i = 20 + (kp - 1 - i) by omega]
        have bd := sm_bd (f := fun i => μ.1 0 (sF n (19 + i))) kp (by omega)
        refine e2.trans (Eq.trans ?_ e1.symm)
        rw [← er]
        exact (mb_eq (by omega) (by omega) (by omega)).symm
    · rw [if_neg c, if_neg c]
      rfl
  show (sp_X8_meanBits (μ.1 8) a, μ) = _
  rw [key]
