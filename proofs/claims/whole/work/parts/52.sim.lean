/-! ===== class and reference: what of the one is what of the other ===== -/
/-- the tables and the settings, class g, reference s -/
def SimT (g s : Nat → Int32) : Prop := g 0 = s 0 ∧ g 1 = s 1 ∧ (∀ k, k < 7 → g (3 + k) = s (2 + k)) ∧ ∀ k, k < 75 → g (10 + k) = s (10 + k)
theorem le64 (a b : Int32) : a.toInt64 ≤ b.toInt64 ↔ a ≤ b := by
  rw [Int64.le_iff_toInt_le, Int32.le_iff_toInt_le, Int32.toInt_toInt64, Int32.toInt_toInt64]
theorem nI_cl {a : Int32} (h : (0 : Int32) ≤ a) : nI a.toNatClampNeg = a := by
  obtain ⟨j, hj, rfl⟩ := nI_of (x := a) (fun q => by rw [Int32.le_iff_toInt_le] at h; rw [Int32.lt_iff_toInt_lt] at q; omega)
  rw [nI_clamp hj]
theorem ni_eq {N : Nat} {x : Int32} (h : ni N x) : nI x.toNatClampNeg = x := h.1.symm
theorem tabAt {g : Nat → Int32} (h : ni 4 (g 0)) (a : Int32) : sp_X4_tableAt g a = if 0 ≤ a ∧ a ≤ g 0 - 1 then some a.toNatClampNeg else none := by
  have h2 := h.2
  by_cases c : 0 ≤ a ∧ a ≤ g 0 - 1
  · rw [if_pos c]
    obtain ⟨c1, c2⟩ := ni_of h (by decide) c
    unfold sp_X4_tableAt
    rw [if_neg (by rw [Int32.lt_iff_toInt_lt]; have := c.1; rw [Int32.le_iff_toInt_le] at this; omega), if_neg (by rw [c1, h.1, nI_leI (by omega) (by omega)]; omega), if_neg (by rw [c1, show (3 : Int32) = nI 3 from rfl, nI_leI (by omega) (by omega)]; omega)]
  · rw [if_neg c]
    unfold sp_X4_tableAt
    by_cases c1 : a < 0
    · rw [if_pos c1]
    · rw [if_neg c1]
      by_cases c2 : g 0 ≤ a
      · rw [if_pos c2]
      · exfalso
        apply c
        obtain ⟨j, hj, rfl⟩ := nI_of (x := a) c1
        rw [h.1] at c2 ⊢
        rw [nI_leI (by omega) hj] at c2
        refine ⟨by rw [show (0 : Int32) = nI 0 from rfl, nI_leI (by omega) hj]; omega, ?_⟩
        rw [show nI (g 0).toNatClampNeg - 1 = nI ((g 0).toNatClampNeg - 1) from pk_sub (b := 1) (by omega), nI_leI hj (by omega)]
        omega
theorem i2l (w : Int32) : (0 : Int64) ≤ w.toInt64 ∧ w.toInt64 ≤ (1 : Int64) ↔ (0 : Int32) ≤ w ∧ w ≤ (1 : Int32) := by
  rw [show (0 : Int64) = (0 : Int32).toInt64 from rfl, show (1 : Int64) = (1 : Int32).toInt64 from rfl, le64, le64]
theorem sT_N {g s : Nat → Int32} (h : SimT g s) {t : Nat} (ht : t < 3) : g (10 + 25 * t) = s (10 + 25 * t) := by
  have q := h.2.2.2 (25 * t) (by omega)
  exact q
theorem sT_D {g s : Nat → Int32} (h : SimT g s) {t k : Nat} (ht : t < 3) (hk : k < 12) : g (11 + 25 * t + k) = s (11 + 25 * t + k) := by
  have q := h.2.2.2 (1 + 25 * t + k) (by omega)
  rw [show 10 + (1 + 25 * t + k) = 11 + 25 * t + k by omega] at q
  exact q
theorem sT_R {g s : Nat → Int32} (h : SimT g s) {t k : Nat} (ht : t < 3) (hk : k < 12) : g (23 + 25 * t + k) = s (23 + 25 * t + k) := by
  have q := h.2.2.2 (13 + 25 * t + k) (by omega)
  rw [show 10 + (13 + 25 * t + k) = 23 + 25 * t + k by omega] at q
  exact q
theorem tmpOf {g : Nat → Int32} {t : Nat} {b : Int32} (h0 : ¬ b < 0) (h1 : ¬ (12 : Int32) ≤ b) : sp_X5_temperatureOf g t b = g (11 + 25 * t + b.toNatClampNeg) := by
  unfold sp_X5_temperatureOf
  rw [if_neg h0, if_neg h1]
  rfl
theorem ratOf {g : Nat → Int32} {t : Nat} {b : Int32} (h0 : ¬ b < 0) (h1 : ¬ (12 : Int32) ≤ b) : sp_X5_ratioOf g t b = g (23 + 25 * t + b.toNatClampNeg) := by
  unfold sp_X5_ratioOf
  rw [if_neg h0, if_neg h1]
  rfl
/-- what nodeAt answers -/
theorem eq_nodeAt {g s : Nat → Int32} (hT : SimT g s) (hI : RI s) (a b w : Int32) : sp_X7_nodeAt g a b w = sp_X8_nodeAt s a b w := by
  unfold sp_X7_nodeAt sp_X8_nodeAt
  rw [tabAt (by rw [hT.1]; exact hI.1), hT.1]
  by_cases c : 0 ≤ a ∧ a ≤ s 0 - 1
  · rw [if_pos c, if_pos c]
    have ha := (ni_of hI.1 (by decide) c).2
    have h4 := hI.1.2
    have ht : a.toNatClampNeg < 3 := by omega
    show (if b < 0 then _ else _) = _
    by_cases c1 : b < 0
    · rw [if_pos c1, if_pos c1]
    · rw [if_neg c1, if_neg c1]
      by_cases c2 : (0 : Int32) ≤ w ∧ w ≤ (1 : Int32)
      · rw [if_pos ((i2l w).mpr c2), if_pos c2]
        have hN := hI.2.2.1 _ ht
        rw [← hN.1, nI_cl c2.1]
        unfold tN
        rw [sT_N hT ht]
        by_cases c3 : b < s (10 + 25 * a.toNatClampNeg)
        · rw [if_pos c3, if_pos c3]
          obtain ⟨j, hj, rfl⟩ := nI_of (x := b) c1
          have h13 := hN.2
          have hb : j < 12 := by
            rw [hN.1, Int32.lt_iff_toInt_lt, nI_toInt hj, nI_toInt (by omega)] at c3
            omega
          have c4 : ¬ (12 : Int32) ≤ nI j := by rw [show (12 : Int32) = nI 12 from rfl, nI_leI (by omega) hj]; omega
          rw [tmpOf c1 c4, ratOf c1 c4, nI_clamp hj, sT_D hT ht hb, sT_R hT ht hb]
        · rw [if_neg c3, if_neg c3]
      · rw [if_neg (fun q => c2 ((i2l w).mp q)), if_neg c2]
  · rw [if_neg c, if_neg c]
    rfl
/-- what is between two nodes, by longs alone -/
theorem itp64 {p q a b w : Int32} (hp : 1 ≤ p.toInt) (hq : q.toInt ≤ 10000000) (hpq : p.toInt ≤ q.toInt) (ha : -200000 ≤ a.toInt) (hb : b.toInt ≤ 850000) (hw1 : a.toInt ≤ w.toInt) (hw2 : w.toInt ≤ b.toInt) (hab : a.toInt < b.toInt) : ((p.toInt64 + (((q.toInt64 - p.toInt64) * (w.toInt64 - a.toInt64)) / (b.toInt64 - a.toInt64))).toInt32).toInt = p.toInt + (q.toInt - p.toInt) * (w.toInt - a.toInt) / (b.toInt - a.toInt) := by
  obtain ⟨-, h0, h1⟩ := itp hp hq hpq ha hb hw1 hw2 hab
  have e1 : (q.toInt64 - p.toInt64).toInt = q.toInt - p.toInt := by rw [Int64.toInt_sub, Int32.toInt_toInt64, Int32.toInt_toInt64, L_of _ (by omega)]
  have e2 : (w.toInt64 - a.toInt64).toInt = w.toInt - a.toInt := by rw [Int64.toInt_sub, Int32.toInt_toInt64, Int32.toInt_toInt64, L_of _ (by omega)]
  have e3 : (b.toInt64 - a.toInt64).toInt = b.toInt - a.toInt := by rw [Int64.toInt_sub, Int32.toInt_toInt64, Int32.toInt_toInt64, L_of _ (by omega)]
  have hXY : 0 ≤ (q.toInt - p.toInt) * (w.toInt - a.toInt) := Int.mul_nonneg (by omega) (by omega)
  have hXY2 : (q.toInt - p.toInt) * (w.toInt - a.toInt) ≤ 10000000 * 1050000 := Int.mul_le_mul (by omega) (by omega) (by omega) (by omega)
  have m : ((q.toInt64 - p.toInt64) * (w.toInt64 - a.toInt64)).toInt = (q.toInt - p.toInt) * (w.toInt - a.toInt) := by
    rw [Int64.toInt_mul, e1, e2, L_of _ (by omega)]
  have d : (((q.toInt64 - p.toInt64) * (w.toInt64 - a.toInt64)) / (b.toInt64 - a.toInt64)).toInt = (q.toInt - p.toInt) * (w.toInt - a.toInt) / (b.toInt - a.toInt) := by
    rw [Int64.toInt_div, m, e3, Int.tdiv_eq_ediv_of_nonneg hXY, L_of _ (by omega)]
  rw [Int64.toInt_toInt32, Int64.toInt_add, Int32.toInt_toInt64, d, L_of _ (by omega), I_of _ (by omega)]
theorem ratAt_lp {g s : Nat → Int32} {t : Nat} {w : Int32} (hS : SimT g s) (ht : t < 3) (hI : RI s) (hT : RT s t) (hQ : RQ s t) (h1 : w ≤ rL s t) : ∀ (f' f j : Nat), f + j = 12 → f' + j = rN s t → j + 1 < rN s t → (s (11 + 25 * t + j)).toInt ≤ w.toInt → lp_X5_ratioAt_2 g t w f (j + 1) = lp_X8_ratioAt_2 s t w f' j := by
  have hN := hI.2.2.1 _ ht
  have h13 : rN s t < 13 := hN.2
  intro f'
  induction f' with
  | zero => intro f j e1 e2 hj; omega
  | succ f' ih =>
    intro f j e1 e2 hj hw
    obtain ⟨f, rfl⟩ : ∃ f0, f = f0 + 1 := ⟨f - 1, by omega⟩
    unfold lp_X5_ratioAt_2 lp_X8_ratioAt_2
    unfold tN tD tR
    rw [Nat.add_sub_cancel, sT_N hS ht, sT_D hS ht (k := j + 1) (by omega), sT_D hS ht (k := j) (by omega), sT_R hS ht (k := j + 1) (by omega), sT_R hS ht (k := j) (by omega)]
    have hNe : s (10 + 25 * t) = nI (rN s t) := hN.1
    rw [if_neg (by rw [hNe, nI_leI (by omega) (by omega)]; omega), if_neg (by rw [show (12 : Int32) = nI 12 from rfl, nI_leI (by omega) (by omega)]; omega)]
    by_cases c : w ≤ s (11 + 25 * t + (j + 1))
    · rw [if_pos c, if_neg (by rw [Int32.lt_iff_toInt_lt]; rw [Int32.le_iff_toInt_le] at c; omega)]
      have ha := hT.2 j (by omega)
      have hb := hT.2 (j + 1) hj
      have hp := hQ.2 j (by omega)
      have hq := hQ.2 (j + 1) hj
      have hpq := hQ.1 j hj
      have hab := hT.1 j hj
      rw [Int32.lt_iff_toInt_lt] at hab
      rw [Int32.le_iff_toInt_le] at c
      rw [if_neg (by
        rw [Int64.le_iff_toInt_le, Int64.toInt_sub, Int32.toInt_toInt64, Int32.toInt_toInt64, L_of _ (by omega), show (0 : Int64).toInt = 0 by decide]; omega)]
      have k64 := itp64 hp.1 hq.2 hpq ha.1 hb.2 hw c hab
      have k32 := itp hp.1 hq.2 hpq ha.1 hb.2 hw c hab
      apply Int32.toInt_inj.mp
      rw [k64]
      by_cases e : s (11 + 25 * t + (j + 1)) = w
      · rw [if_pos e, ← e, Int.mul_ediv_cancel _ (by omega)]
        omega
      · rw [if_neg e, k32.1]
    · have c' : s (11 + 25 * t + (j + 1)) < w := by rw [Int32.lt_iff_toInt_lt]; rw [Int32.le_iff_toInt_le] at c; omega
      rw [if_neg c, if_pos c']
      rw [Int32.lt_iff_toInt_lt] at c'
      exact ih f (j + 1) (by omega) (by omega) (rt_adv h1 c hj) (by omega)
theorem eq_ratioAt {g s : Nat → Int32} {t : Nat} {w : Int32} (hS : SimT g s) (ht : t < 3) (hI : RI s) (hT : RT s t) (hQ : RQ s t) (hn : 2 ≤ rN s t) (h0 : s (11 + 25 * t + 0) ≤ w) (h1 : w ≤ rL s t) : sp_X5_ratioAt g t w = sp_X8_ratioAt s t w :=
  ratAt_lp hS ht hI hT hQ h1 _ 12 0 (by omega) (by omega) (by omega) (Int32.le_iff_toInt_le.mp h0)
theorem i2t (w : Int32) : (-200000 : Int64) ≤ w.toInt64 ∧ w.toInt64 ≤ 850000 ↔ (-200000 : Int32) ≤ w ∧ w ≤ 850000 := by
  rw [show (-200000 : Int64) = (-200000 : Int32).toInt64 by decide, show (850000 : Int64) = (850000 : Int32).toInt64 by decide, le64, le64]
theorem goes0 {g s : Nat → Int32} {t : Nat} (hS : SimT g s) (ht : t < 3) (hI : RI s) (w : Int32) : sp_X5_goesTo g t w = 0 ↔ ¬ (2 ≤ rN s t ∧ s (11 + 25 * t + 0) ≤ w ∧ w ≤ rL s t) := by
  have hN := hI.2.2.1 _ ht
  have h13 : rN s t < 13 := hN.2
  have hNe : s (10 + 25 * t) = nI (rN s t) := hN.1
  unfold sp_X5_goesTo tN
  rw [sT_N hS ht, hNe]
  by_cases c1 : rN s t < 2
  · rw [if_pos (by rw [Int32.lt_iff_toInt_lt, nI_toInt (by omega), show (2 : Int32).toInt = 2 by decide]; omega)]
    constructor
    · intro _ q; omega
    · intro _; rfl
  · rw [if_neg (by rw [Int32.lt_iff_toInt_lt, nI_toInt (by omega), show (2 : Int32).toInt = 2 by decide]; omega)]
    have e0 : sp_X5_temperatureOf g t (0 : Int32) = s (11 + 25 * t + 0) := by
      rw [tmpOf (by decide) (by decide), show (0 : Int32).toNatClampNeg = 0 by decide, sT_D hS ht (by omega)]
    have e1 : sp_X5_temperatureOf g t (nI (rN s t) - 1) = rL s t := by
      rw [show nI (rN s t) - 1 = nI (rN s t - 1) from pk_sub (b := 1) (by omega), tmpOf (by rw [Int32.lt_iff_toInt_lt, nI_toInt (by omega), Int32.toInt_zero]; omega) (by rw [show (12 : Int32) = nI 12 from rfl, nI_leI (by omega) (by omega)]; omega), nI_clamp (by omega), sT_D hS ht (by omega)]
      rfl
    rw [e0, e1]
    by_cases c2 : w < s (11 + 25 * t + 0)
    · rw [if_pos c2]
      constructor
      · intro _ q
        have := q.2.1
        rw [Int32.le_iff_toInt_le] at this; rw [Int32.lt_iff_toInt_lt] at c2; omega
      · intro _; rfl
    · rw [if_neg c2]
      by_cases c3 : rL s t < w
      · rw [if_pos c3]
        constructor
        · intro _ q
          have := q.2.2
          rw [Int32.le_iff_toInt_le] at this; rw [Int32.lt_iff_toInt_lt] at c3; omega
        · intro _; rfl
      · rw [if_neg c3]
        constructor
        · intro q; exact absurd q (by decide)
        · intro q
          exfalso
          apply q
          rw [Int32.lt_iff_toInt_lt] at c2 c3
          exact ⟨by omega, by rw [Int32.le_iff_toInt_le]; omega, by rw [Int32.le_iff_toInt_le]; omega⟩
/-- what ratio answers -/
theorem eq_ratio {g s : Nat → Int32} (hS : SimT g s) (hI : RI s) (hT : ∀ t, t < 3 → RT s t ∧ RQ s t) (a b : Int32) : sp_X7_ratio g a b = sp_X8_ratio s a b := by
  unfold sp_X7_ratio sp_X8_ratio
  rw [tabAt (by rw [hS.1]; exact hI.1), hS.1]
  by_cases c : 0 ≤ a ∧ a ≤ s 0 - 1
  · rw [if_pos c, if_pos c]
    have ha := (ni_of hI.1 (by decide) c).2
    have h4 := hI.1.2
    have ht : a.toNatClampNeg < 3 := by omega
    show (if (-200000 : Int64) ≤ b.toInt64 ∧ b.toInt64 ≤ 850000 then _ else _) = _
    by_cases c1 : (-200000 : Int32) ≤ b ∧ b ≤ 850000
    · rw [if_pos ((i2t b).mpr c1), if_pos c1]
      by_cases c2 : 2 ≤ rN s a.toNatClampNeg ∧ s (11 + 25 * a.toNatClampNeg + 0) ≤ b ∧ b ≤ rL s a.toNatClampNeg
      · rw [if_pos c2, if_neg (fun q => (goes0 hS ht hI b).mp q c2)]
        exact eq_ratioAt hS ht hI (hT _ ht).1 (hT _ ht).2 c2.1 c2.2.1 c2.2.2
      · rw [if_neg c2, if_pos ((goes0 hS ht hI b).mpr c2)]
    · rw [if_neg (fun q => c1 ((i2t b).mp q)), if_neg c1]
  · rw [if_neg c, if_neg c]
    rfl
theorem midI {x y : Int32} (h0 : -200000 ≤ x.toInt) (h1 : x.toInt ≤ y.toInt) (h2 : y.toInt ≤ 850000) : (x + ((y - x) / 2)).toInt = x.toInt + (y.toInt - x.toInt) / 2 ∧ ((x + ((y - x) / 2)) + 1).toInt = x.toInt + (y.toInt - x.toInt) / 2 + 1 := by
  have e1 : (y - x).toInt = y.toInt - x.toInt := by rw [Int32.toInt_sub, I_of _ (by omega)]
  have e2 : ((y - x) / 2).toInt = (y.toInt - x.toInt) / 2 := by
    rw [Int32.toInt_div, e1, show (2 : Int32).toInt = 2 by decide, Int.tdiv_eq_ediv_of_nonneg (by omega), I_of _ (by omega)]
  have e3 : (x + ((y - x) / 2)).toInt = x.toInt + (y.toInt - x.toInt) / 2 := by rw [Int32.toInt_add, e2, I_of _ (by omega)]
  refine ⟨e3, ?_⟩
  rw [Int32.toInt_add, e3, show (1 : Int32).toInt = 1 by decide, I_of _ (by omega)]
theorem inv_lp {g s : Nat → Int32} {t : Nat} {w : Int64} (hS : SimT g s) (ht : t < 3) (hI : RI s) (hT : RT s t) (hQ : RQ s t) (hn : 2 ≤ rN s t) : ∀ (n k f' : Nat) (x y : Int32), k + n = 32 → y.toInt - x.toInt < 2 ^ n → y.toInt - x.toInt < (f' : Int) → x.toInt ≤ y.toInt → (s (11 + 25 * t + 0)).toInt ≤ x.toInt → y.toInt ≤ (rL s t).toInt → lp_X5_temperatureFor_59 g t w (n + 1) x y k = lp_X8_inverseOf_56 s t w f' x y := by
  have hlo := hT.2 0 (by omega)
  have hhi := hT.2 (rN s t - 1) (by omega)
  have hrL : (rL s t).toInt ≤ 850000 := hhi.2
  intro n
  induction n with
  | zero =>
    intro k f' x y hk hw hf hxy hx hy
    obtain ⟨f', rfl⟩ : ∃ f0, f' = f0 + 1 := ⟨f' - 1, by omega⟩
    have e : x.toInt = y.toInt := by
      have : (2 : Int) ^ 0 = 1 := rfl
      omega
    have e' : x = y := Int32.toInt_inj.mp e
    subst e'
    unfold lp_X5_temperatureFor_59 lp_X8_inverseOf_56
    rw [if_pos (by rw [show k = 32 by omega]; decide), if_pos (Int32.le_iff_toInt_le.mpr (Int.le_refl _))]
  | succ n ih =>
    intro k f' x y hk hw hf hxy hx hy
    obtain ⟨f', rfl⟩ : ∃ f0, f' = f0 + 1 := ⟨f' - 1, by omega⟩
    unfold lp_X5_temperatureFor_59 lp_X8_inverseOf_56
    rw [if_neg (by rw [show (32 : Int32) = nI 32 from rfl, nI_leI (by omega) (by omega)]; omega)]
    by_cases c : y ≤ x
    · rw [if_pos c, if_pos c]
      rw [Int32.le_iff_toInt_le] at c
      exact Int32.toInt_inj.mp (by omega)
    · rw [if_neg c, if_neg c]
      rw [Int32.le_iff_toInt_le] at c
      obtain ⟨m1, m2⟩ := midI (x := x) (y := y) (by omega) hxy (by omega)
      have hp : (2 : Int) ^ (n + 1) = 2 ^ n * 2 := Int.pow_succ 2 n
      rw [eq_ratioAt hS ht hI hT hQ hn (by rw [Int32.le_iff_toInt_le, m1]; omega) (by rw [Int32.le_iff_toInt_le, m1]; omega)]
      by_cases d : (sp_X8_ratioAt s t (x + ((y - x) / 2))).toInt64 < w
      · rw [if_pos d, if_pos d]
        exact ih (k + 1) f' _ y (by omega) (by rw [m2]; omega) (by rw [m2]; omega) (by rw [m2]; omega) (by rw [m2]; omega) hy
      · rw [if_neg d, if_neg d]
        exact ih (k + 1) f' x _ (by omega) (by rw [m1]; omega) (by rw [m1]; omega) (by rw [m1]; omega) hx (by rw [m1]; omega)
theorem eq_inverseOf {g s : Nat → Int32} {t : Nat} (hS : SimT g s) (ht : t < 3) (hI : RI s) (hT : RT s t) (hQ : RQ s t) (w : Int64) : sp_X5_temperatureFor g t w = sp_X8_inverseOf s t w := by
  have hN := hI.2.2.1 _ ht
  have h13 : rN s t < 13 := hN.2
  have hNe : s (10 + 25 * t) = nI (rN s t) := hN.1
  have hNr : (s (10 + 25 * t)).toNatClampNeg = rN s t := rfl
  unfold sp_X5_temperatureFor sp_X8_inverseOf tN
  rw [sT_N hS ht, hNr, hNe]
  by_cases c1 : nI (rN s t) < 2
  · rw [if_pos c1, if_pos c1]
  · rw [if_neg c1, if_neg c1]
    have c1n : 2 ≤ rN s t := by rw [Int32.lt_iff_toInt_lt, nI_toInt (by omega), show (2 : Int32).toInt = 2 by decide] at c1; omega
    have r0 : sp_X5_ratioOf g t (0 : Int32) = s (23 + 25 * t + 0) := by
      rw [ratOf (by decide) (by decide), show (0 : Int32).toNatClampNeg = 0 by decide, sT_R hS ht (by omega)]
    have p1 : nI (rN s t) - 1 = nI (rN s t - 1) := pk_sub (b := 1) (by omega)
    have n0 : ¬ nI (rN s t - 1) < 0 := by rw [Int32.lt_iff_toInt_lt, nI_toInt (by omega), Int32.toInt_zero]; omega
    have n1 : ¬ (12 : Int32) ≤ nI (rN s t - 1) := by rw [show (12 : Int32) = nI 12 from rfl, nI_leI (by omega) (by omega)]; omega
    have r1 : sp_X5_ratioOf g t (nI (rN s t) - 1) = s (23 + 25 * t + (rN s t - 1)) := by
      rw [p1, ratOf n0 n1, nI_clamp (by omega), sT_R hS ht (by omega)]
    have t0 : sp_X5_temperatureOf g t (0 : Int32) = s (11 + 25 * t + 0) := by
      rw [tmpOf (by decide) (by decide), show (0 : Int32).toNatClampNeg = 0 by decide, sT_D hS ht (by omega)]
    have t1 : sp_X5_temperatureOf g t (nI (rN s t) - 1) = rL s t := by
      rw [p1, tmpOf n0 n1, nI_clamp (by omega), sT_D hS ht (by omega)]
      rfl
    rw [r0, r1, t0, t1]
    by_cases c2 : w < (s (23 + 25 * t + 0)).toInt64
    · rw [if_pos c2, if_pos c2]
    · rw [if_neg c2, if_neg c2]
      by_cases c3 : w ≤ (s (23 + 25 * t + (rN s t - 1))).toInt64
      · rw [if_pos c3, if_pos c3]
        have fl := rt_fl hT c1n
        have hlo := hT.2 0 (by omega)
        have hhi := hT.2 (rN s t - 1) (by omega)
        have hrL : (rL s t).toInt ≤ 850000 := hhi.2
        exact inv_lp hS ht hI hT hQ c1n 32 0 _ _ _ (by omega) (by have : (2 : Int) ^ 32 = 4294967296 := by decide
                                                                  omega) (by omega) (by omega) (Int.le_refl _) (Int.le_refl _)
      · rw [if_neg c3, if_neg c3]
theorem i2r (w : Int32) : (1 : Int64) ≤ w.toInt64 ∧ w.toInt64 ≤ (10000000 : Int64) ↔ (1 : Int32) ≤ w ∧ w ≤ (10000000 : Int32) := by
  rw [show (1 : Int64) = (1 : Int32).toInt64 by decide, show (10000000 : Int64) = (10000000 : Int32).toInt64 by decide, le64, le64]
/-- what inverse answers -/
theorem eq_inverse {g s : Nat → Int32} (hS : SimT g s) (hI : RI s) (hT : ∀ t, t < 3 → RT s t ∧ RQ s t) (a b : Int32) : sp_X7_inverse g a b = sp_X8_inverse s a b := by
  unfold sp_X7_inverse sp_X8_inverse
  rw [tabAt (by rw [hS.1]; exact hI.1), hS.1]
  by_cases c : 0 ≤ a ∧ a ≤ s 0 - 1
  · rw [if_pos c, if_pos c]
    have ha := (ni_of hI.1 (by decide) c).2
    have h4 := hI.1.2
    have ht : a.toNatClampNeg < 3 := by omega
    show (if (1 : Int64) ≤ b.toInt64 ∧ b.toInt64 ≤ (10000000 : Int64) then _ else _) = _
    by_cases c1 : (1 : Int32) ≤ b ∧ b ≤ (10000000 : Int32)
    · rw [if_pos ((i2r b).mpr c1), if_pos c1]
      exact eq_inverseOf hS ht hI (hT _ ht).1 (hT _ ht).2 _
    · rw [if_neg (fun q => c1 ((i2r b).mp q)), if_neg c1]
  · rw [if_neg c, if_neg c]
    rfl
/-- a place: nowhere, or card and slot by the class's and by the reference's number -/
def PlO (x y : Int32) : Prop := (x = -1 ∧ y = -1) ∨ ∃ p, p < 12 ∧ x = nI p ∧ y = nI (10 * (p / 3) + p % 3)
theorem nI_ij {a b : Nat} (ha : a < 2 ^ 31) (hb : b < 2 ^ 31) (h : nI a = nI b) : a = b := by
  have := congrArg Int32.toInt h
  rw [nI_toInt ha, nI_toInt hb] at this
  omega
theorem pl_iff {x y : Int32} (h : PlO x y) {q : Nat} (hq : q < 12) : x = nI q ↔ y = nI (10 * (q / 3) + q % 3) := by
  rcases h with ⟨rfl, rfl⟩ | ⟨p, hp, rfl, rfl⟩
  · constructor
    · intro e
      have := congrArg Int32.toInt e
      rw [nI_toInt (by omega), show (-1 : Int32).toInt = -1 by decide] at this
      omega
    · intro e
      have := congrArg Int32.toInt e
      rw [nI_toInt (by omega), show (-1 : Int32).toInt = -1 by decide] at this
      omega
  · constructor
    · intro e
      rw [nI_ij (by omega) (by omega) e]
    · intro e
      have := nI_ij (by omega) (by omega) e
      rw [show p = q by omega]
theorem in_lp {g s : Nat → Int32} (hc : g 1 = s 1) (h7 : ni 7 (s 1)) (hP : ∀ n, n < (s 1).toNatClampNeg → PlO (g (sF n 6)) (s (85 + 29 * n + 13))) {q : Nat} (hq : q < 12) : ∀ f k, k + f = 7 → lp_X4_sensorIn_2 g (nI q) f k = lp_X8_inside_2 s (nI (10 * (q / 3) + q % 3)) f k := by
  have h72 := h7.2
  intro f
  induction f with
  | zero => intro k _; rfl
  | succ f ih =>
    intro k hk
    unfold lp_X4_sensorIn_2 lp_X8_inside_2
    rw [hc, h7.1, nI_clamp (by omega)]
    by_cases c : nI (s 1).toNatClampNeg ≤ nI k
    · rw [if_pos c, if_pos c]
    · rw [if_neg c, if_neg c]
      rw [nI_leI (by omega) (by omega)] at c
      rw [if_neg (by rw [show (6 : Int32) = nI 6 from rfl, nI_leI (by omega) (by omega)]; omega)]
      have e := pl_iff (hP k (by omega)) hq
      by_cases d : g (sF k 6) = nI q
      · rw [if_pos d, if_pos (e.mp d)]
      · rw [if_neg d, if_neg (fun z => d (e.mpr z))]
        exact ih (k + 1) (by omega)
theorem i2a (w : Int32) (b : Nat) (hb : b < 2 ^ 31) : (0 : Int64) ≤ w.toInt64 ∧ w.toInt64 ≤ (nI b).toInt64 ↔ (0 : Int32) ≤ w ∧ w ≤ nI b := by
  rw [show (0 : Int64) = (0 : Int32).toInt64 from rfl, le64, le64]
/-- what slotAt answers -/
theorem eq_slotAt {g s : Nat → Int32} (hc : g 1 = s 1) (hI : RI s) (hP : ∀ n, n < (s 1).toNatClampNeg → PlO (g (sF n 6)) (s (85 + 29 * n + 13))) (a b : Int32) : sp_X7_slotAt g a b = sp_X8_slotAt s a b := by
  unfold sp_X7_slotAt sp_X8_slotAt
  have ea := i2a a 3 (by decide)
  have eb := i2a b 2 (by decide)
  rw [show (nI 3).toInt64 = (3 : Int64) by decide, show nI 3 = (3 : Int32) from rfl] at ea
  rw [show (nI 2).toInt64 = (2 : Int64) by decide, show nI 2 = (2 : Int32) from rfl] at eb
  by_cases c1 : (0 : Int32) ≤ a ∧ a ≤ 3
  · rw [if_pos c1]
    by_cases c2 : (0 : Int32) ≤ b ∧ b ≤ 2
    · rw [if_pos c2, if_pos ⟨ea.mpr c1, eb.mpr c2⟩]
      obtain ⟨a1, a2, a3⟩ := na_rng 0 3 rfl rfl (by decide) (by decide) c1
      obtain ⟨b1, b2, b3⟩ := na_rng 0 2 rfl rfl (by decide) (by decide) c2
      generalize hj : a.toNatClampNeg = j at *
      generalize hi : b.toNatClampNeg = i at *
      have e : a * 3 + b = nI (j * 3 + i) := by
        rw [a1, b1, show (3 : Int32) = nI 3 from rfl, pk_mul, nI_add]
      have e2 : 10 * ((j * 3 + i) / 3) + (j * 3 + i) % 3 = 10 * j + i := by omega
      have key : sp_X4_sensorIn g (a * 3 + b) = sp_X8_inside s (nI (10 * j + i)) := by
        rw [e, ← e2]
        exact in_lp hc hI.2.1 hP (by omega) 7 0 (by omega)
      rw [key]
    · rw [if_neg c2, if_neg (fun q => c2 (eb.mp q.2))]
  · rw [if_neg c1, if_neg (fun q => c1 (ea.mp q.1))]
theorem senAt {g : Nat → Int32} (h : ni 7 (g 1)) (a : Int32) : sp_X4_sensorAt g a = if 0 ≤ a ∧ a ≤ g 1 - 1 then some a.toNatClampNeg else none := by
  have h2 := h.2
  by_cases c : 0 ≤ a ∧ a ≤ g 1 - 1
  · rw [if_pos c]
    obtain ⟨c1, c2⟩ := ni_of h (by decide) c
    unfold sp_X4_sensorAt
    rw [if_neg (by rw [Int32.lt_iff_toInt_lt]; have := c.1; rw [Int32.le_iff_toInt_le] at this; omega), if_neg (by rw [c1, h.1, nI_leI (by omega) (by omega)]; omega), if_neg (by rw [c1, show (6 : Int32) = nI 6 from rfl, nI_leI (by omega) (by omega)]; omega)]
  · rw [if_neg c]
    unfold sp_X4_sensorAt
    by_cases c1 : a < 0
    · rw [if_pos c1]
    · rw [if_neg c1]
      by_cases c2 : g 1 ≤ a
      · rw [if_pos c2]
      · exfalso
        apply c
        obtain ⟨j, hj, rfl⟩ := nI_of (x := a) c1
        rw [h.1] at c2 ⊢
        rw [nI_leI (by omega) hj] at c2
        refine ⟨by rw [show (0 : Int32) = nI 0 from rfl, nI_leI (by omega) hj]; omega, ?_⟩
        rw [show nI (g 1).toNatClampNeg - 1 = nI ((g 1).toNatClampNeg - 1) from pk_sub (b := 1) (by omega), nI_leI hj (by omega)]
        omega
/-- a sensor, class and reference; its log apart -/
def SimN (g s : Nat → Int32) (n : Nat) : Prop := (∀ f, f < 5 → g (sF n f) = s (85 + 29 * n + f)) ∧ g (sF n 5) = s (85 + 29 * n + 12) ∧ PlO (g (sF n 6)) (s (85 + 29 * n + 13)) ∧ (∀ f, f < 5 → g (sF n (7 + f)) = s (85 + 29 * n + (14 + f))) ∧ (∀ k, k < 4 → g (sF n (12 + k)) = s (85 + 29 * n + (5 + k))) ∧ ∀ k, k < 3 → g (sF n (16 + k)) = s (85 + 29 * n + (9 + k))
theorem told {x y : Int32} (h : PlO x y) (hx : ¬ x = -1) : sp_X7_toldPlace x = y := by
  rcases h with ⟨rfl, _⟩ | ⟨p, hp, rfl, rfl⟩
  · exact absurd rfl hx
  · have key : ∀ p, p < 12 → sp_X7_toldPlace (nI p) = nI (10 * (p / 3) + p % 3) := by decide +kernel
    exact key p hp
theorem pl_no {x y : Int32} (h : PlO x y) : x = -1 ↔ y = -1 := by
  rcases h with ⟨rfl, rfl⟩ | ⟨p, hp, rfl, rfl⟩
  · exact ⟨fun _ => rfl, fun _ => rfl⟩
  · have key : ∀ p, p < 12 → ¬ nI p = -1 ∧ ¬ nI (10 * (p / 3) + p % 3) = -1 := by decide +kernel
    exact ⟨fun e => absurd e (key p hp).1, fun e => absurd e (key p hp).2⟩
theorem b19 {b : Int32} (c : (0 : Int32) ≤ b ∧ b ≤ 18) : ∃ i, i < 19 ∧ b = nI i := by
  obtain ⟨a1, -, a3⟩ := na_rng 0 18 rfl rfl (by decide) (by decide) c
  exact ⟨_, a3, a1⟩
theorem i18 (w : Int32) : (0 : Int64) ≤ w.toInt64 ∧ w.toInt64 ≤ (18 : Int64) ↔ (0 : Int32) ≤ w ∧ w ≤ (18 : Int32) := by
  rw [show (0 : Int64) = (0 : Int32).toInt64 from rfl, show (18 : Int64) = (18 : Int32).toInt64 by decide, le64, le64]
theorem i58 (w : Int32) : (5 : Int64) ≤ w.toInt64 ∧ w.toInt64 ≤ (8 : Int64) ↔ (5 : Int32) ≤ w ∧ w ≤ (8 : Int32) := by
  rw [show (5 : Int64) = (5 : Int32).toInt64 by decide, show (8 : Int64) = (8 : Int32).toInt64 by decide, le64, le64]
theorem i911 (w : Int32) : (9 : Int64) ≤ w.toInt64 ∧ w.toInt64 ≤ (11 : Int64) ↔ (9 : Int32) ≤ w ∧ w ≤ (11 : Int32) := by
  rw [show (9 : Int64) = (9 : Int32).toInt64 by decide, show (11 : Int64) = (11 : Int32).toInt64 by decide, le64, le64]
/-- what sensorOf answers of one that there is -/
theorem eq_sensorOf {g s : Nat → Int32} (hc : g 1 = s 1) (hI : RI s) (hN : ∀ n, n < (s 1).toNatClampNeg → SimN g s n) (a b : Int32) : sp_X7_sensorOf g a b = sp_X8_sensorOf s a b := by
  unfold sp_X7_sensorOf sp_X8_sensorOf
  rw [senAt (by rw [hc]; exact hI.2.1), hc]
  by_cases c : 0 ≤ a ∧ a ≤ s 1 - 1
  · rw [if_pos c, if_pos c]
    have ha := (ni_of hI.2.1 (by decide) c).2
    have h7 := hI.2.1.2
    have hS := hN _ ha
    obtain ⟨s0, s5, sp, s7, sl, ss⟩ := hS
    have hW := (hI.2.2.2 a.toNatClampNeg (by omega)).2.2
    have hW5 := hW.2
    show (if (0 : Int64) ≤ b.toInt64 ∧ b.toInt64 ≤ (18 : Int64) then _ else _) = _
    by_cases c1 : (0 : Int32) ≤ b ∧ b ≤ 18
    · rw [if_pos ((i18 b).mpr c1), if_pos c1]
      obtain ⟨i, hi, rfl⟩ := b19 c1
      rw [nI_clamp (by omega)]
      by_cases c2 : (5 : Int32) ≤ nI i ∧ nI i ≤ 8
      · rw [if_pos ((i58 _).mpr c2), if_pos c2]
        obtain ⟨k1, k2⟩ := c2
        rw [show (5 : Int32) = nI 5 from rfl, nI_leI (by omega) (by omega)] at k1
        rw [show (8 : Int32) = nI 8 from rfl, nI_leI (by omega) (by omega)] at k2
        have e5 : nI i - 5 = nI (i - 5) := pk_sub (b := 5) k1
        rw [e5, s0 1 (by omega), hW.1, nI_clamp (by omega)]
        by_cases c3 : nI (s (85 + 29 * a.toNatClampNeg + 1)).toNatClampNeg ≤ nI (i - 5)
        · rw [if_pos c3, if_neg (fun q => by
            have := q.2
            rw [Int32.lt_iff_toInt_lt] at this; rw [Int32.le_iff_toInt_le] at c3; omega)]
        · rw [if_neg c3, if_pos ⟨by rw [show (0 : Int32) = nI 0 from rfl, nI_leI (by omega) (by omega)]; omega, by rw [Int32.lt_iff_toInt_lt]; rw [Int32.le_iff_toInt_le] at c3; omega⟩, if_neg (fun q => by
            have := nI_ij (a := i) (b := 13) (by omega) (by omega) q
            omega)]
          unfold sp_X3_leadOf
          rw [if_neg (by rw [Int32.lt_iff_toInt_lt, nI_toInt (by omega), Int32.toInt_zero]; omega), if_neg (by rw [show (4 : Int32) = nI 4 from rfl, nI_leI (by omega) (by omega)]; omega), nI_clamp (by omega), sl _ (by omega), show 5 + (i - 5) = i by omega]
      · rw [if_neg (fun q => c2 ((i58 _).mp q)), if_neg c2]
        by_cases c4 : (9 : Int32) ≤ nI i ∧ nI i ≤ 11
        · rw [if_pos ((i911 _).mpr c4)]
          obtain ⟨k1, k2⟩ := c4
          rw [show (9 : Int32) = nI 9 from rfl, nI_leI (by omega) (by omega)] at k1
          rw [show (11 : Int32) = nI 11 from rfl, nI_leI (by omega) (by omega)] at k2
          rw [if_neg (fun q => by
            have := nI_ij (a := i) (b := 13) (by omega) (by omega) q
            omega), show nI i - 9 = nI (i - 9) from pk_sub (b := 9) k1]
          unfold sp_X3_strainOf
          rw [if_neg (by rw [Int32.lt_iff_toInt_lt, nI_toInt (by omega), Int32.toInt_zero]; omega), if_neg (by rw [show (3 : Int32) = nI 3 from rfl, nI_leI (by omega) (by omega)]; omega), nI_clamp (by omega), ss _ (by omega), show 9 + (i - 9) = i by omega]
        · rw [if_neg (fun q => c4 ((i911 _).mp q))]
          have d : ∀ k, k < 19 → (nI i = nI k ↔ i = k) := fun k hk => ⟨fun q => nI_ij (by omega) (by omega) q, fun q => by rw [q]⟩
          have hr : i = 0 ∨ i = 1 ∨ i = 2 ∨ i = 3 ∨ i = 4 ∨ i = 12 ∨ i = 13 ∨ i = 14 ∨ i = 15 ∨ i = 16 ∨ i = 17 ∨ i = 18 := by
            rw [show (5 : Int32) = nI 5 from rfl, show (8 : Int32) = nI 8 from rfl, nI_leI (by omega) (by omega), nI_leI (by omega) (by omega)] at c2
            rw [show (9 : Int32) = nI 9 from rfl, show (11 : Int32) = nI 11 from rfl, nI_leI (by omega) (by omega), nI_leI (by omega) (by omega)] at c4
            omega
          rcases hr with rfl | rfl | rfl | rfl | rfl | rfl | rfl | rfl | rfl | rfl | rfl | rfl
          · exact s0 0 (by decide)
          · exact s0 1 (by decide)
          · exact s0 2 (by decide)
          · exact s0 3 (by decide)
          · exact s0 4 (by decide)
          · exact s5
          · show (if ¬ g (sF a.toNatClampNeg 6) = -1 then _ else _) = (if s (85 + 29 * a.toNatClampNeg + 13) = -1 then _ else _)
            by_cases e : g (sF a.toNatClampNeg 6) = -1
            · rw [if_neg (fun q => q e), if_pos ((pl_no sp).mp e)]
            · rw [if_pos e, if_neg (fun q => e ((pl_no sp).mpr q)), told sp e]
          · exact s7 0 (by decide)
          · exact s7 1 (by decide)
          · exact s7 2 (by decide)
          · exact s7 3 (by decide)
          · exact s7 4 (by decide)
    · rw [if_neg (fun q => c1 ((i18 b).mp q)), if_neg c1]
  · rw [if_neg c, if_neg c]
    rfl
