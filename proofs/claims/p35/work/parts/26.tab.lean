/-! ===== between nodes, in whole numbers; the inverse ===== -/
def itv (p q a b x : Int) : Int := p + (q - p) * (x - a) / (b - a)
theorem itv_lo {p q a b x : Int} (hpq : p ≤ q) (hab : a < b) (hx : a ≤ x) : p ≤ itv p q a b x := by
  have : 0 ≤ (q - p) * (x - a) / (b - a) := Int.ediv_nonneg (Int.mul_nonneg (by omega) (by omega)) (by omega)
  unfold itv
  omega
theorem itv_b {p q a b : Int} (hab : a < b) : itv p q a b b = q := by
  unfold itv
  rw [Int.mul_ediv_cancel _ (by omega)]
  omega
theorem itv_a {p q a b : Int} : itv p q a b a = p := by
  unfold itv
  rw [Int.sub_self, Int.mul_zero, Int.zero_ediv]
  omega
theorem itv_mono {p q a b x y : Int} (hpq : p ≤ q) (hab : a < b) (hxy : x ≤ y) : itv p q a b x ≤ itv p q a b y := by
  have h1 : (q - p) * (x - a) ≤ (q - p) * (y - a) := Int.mul_le_mul_of_nonneg_left (by omega) (by omega)
  have h2 := Int.ediv_le_ediv (show 0 < b - a by omega) h1
  unfold itv
  omega
theorem itv_lt {p q a b x : Int} (hpq : p < q) (hab : a < b) (hx : x < b) : itv p q a b x < q := by
  have h1 : (q - p) * (x - a) < (q - p) * (b - a) := Int.mul_lt_mul_of_pos_left (by omega) (by omega)
  have h2 : (q - p) * (x - a) / (b - a) < q - p := Int.ediv_lt_of_lt_mul (by omega) h1
  unfold itv
  omega
def ratI (D R : Nat → Int) (x : Int) : Int := if D 1 < x then (if D 2 < x then itv (R 2) (R 3) (D 2) (D 3) x else itv (R 1) (R 2) (D 1) (D 2) x) else itv (R 0) (R 1) (D 0) (D 1) x
def Asc (D R : Nat → Int) : Prop := D 0 < D 1 ∧ D 1 < D 2 ∧ D 2 < D 3 ∧ R 0 < R 1 ∧ R 1 < R 2 ∧ R 2 < R 3
section AS
variable {D R : Nat → Int} {x y w w' x' : Int}
theorem rat_s0 (h : ¬ D 1 < x) : ratI D R x = itv (R 0) (R 1) (D 0) (D 1) x := if_neg h
theorem rat_s1 (h : D 1 < x) (h2 : ¬ D 2 < x) : ratI D R x = itv (R 1) (R 2) (D 1) (D 2) x := (if_pos h).trans (if_neg h2)
theorem rat_s2 (h : D 1 < x) (h2 : D 2 < x) : ratI D R x = itv (R 2) (R 3) (D 2) (D 3) x := (if_pos h).trans (if_pos h2)
theorem ratI_mono (a : Asc D R) (hx : D 0 ≤ x) (hxy : x ≤ y) (hy : y ≤ D 3) : ratI D R x ≤ ratI D R y := by
  obtain ⟨a1, a2, a3, a4, a5, a6⟩ := a
  by_cases c1 : D 1 < x
  · by_cases c2 : D 2 < x
    · rw [rat_s2 c1 c2, rat_s2 (by omega) (by omega)]
      exact itv_mono (by omega) (by omega) hxy
    · rw [rat_s1 c1 c2]
      by_cases c3 : D 2 < y
      · rw [rat_s2 (by omega) c3]
        have h1 := itv_mono (p := R 1) (q := R 2) (a := D 1) (b := D 2) (x := x) (y := D 2) (by omega) (by omega) (by omega)
        rw [itv_b (by omega)] at h1
        have h2 := itv_lo (p := R 2) (q := R 3) (a := D 2) (b := D 3) (x := y) (by omega) (by omega) (by omega)
        omega
      · rw [rat_s1 (by omega) c3]
        exact itv_mono (by omega) (by omega) hxy
  · rw [rat_s0 c1]
    have h1 := itv_mono (p := R 0) (q := R 1) (a := D 0) (b := D 1) (x := x) (y := D 1) (by omega) (by omega) (by omega)
    rw [itv_b (by omega)] at h1
    by_cases c2 : D 1 < y
    · by_cases c3 : D 2 < y
      · rw [rat_s2 c2 c3]
        have h2 := itv_lo (p := R 2) (q := R 3) (a := D 2) (b := D 3) (x := y) (by omega) (by omega) (by omega)
        omega
      · rw [rat_s1 c2 c3]
        have h2 := itv_lo (p := R 1) (q := R 2) (a := D 1) (b := D 2) (x := y) (by omega) (by omega) (by omega)
        omega
    · rw [rat_s0 c2]
      exact itv_mono (by omega) (by omega) hxy
theorem ratI_at (a : Asc D R) {k : Nat} (hk : k < 4) : ratI D R (D k) = R k := by
  obtain ⟨a1, a2, a3, a4, a5, a6⟩ := a
  match k, hk with
  | 0, _ => rw [rat_s0 (by omega), itv_a]
  | 1, _ => rw [rat_s0 (by omega), itv_b (by omega)]
  | 2, _ => rw [rat_s1 (by omega) (by omega), itv_b (by omega)]
  | 3, _ => rw [rat_s2 (by omega) (by omega), itv_b (by omega)]
theorem Asc.d0 (a : Asc D R) {k : Nat} (hk : k < 4) : D 0 ≤ D k ∧ D k ≤ D 3 ∧ R 0 ≤ R k ∧ R k ≤ R 3 := by
  obtain ⟨a1, a2, a3, a4, a5, a6⟩ := a
  rcases (show k = 0 ∨ k = 1 ∨ k = 2 ∨ k = 3 by omega) with rfl | rfl | rfl | rfl <;> omega
theorem ratI_lt (a : Asc D R) {k : Nat} (hk : k < 4) (hx : D 0 ≤ x) (h : x < D k) : ratI D R x < R k := by
  obtain ⟨a1, a2, a3, a4, a5, a6⟩ := id a
  match k, hk with
  | 0, _ => omega
  | 1, _ => rw [rat_s0 (by omega)]; exact itv_lt (by omega) (by omega) h
  | 2, _ =>
    by_cases c : D 1 < x
    · rw [rat_s1 c (by omega)]; exact itv_lt (by omega) (by omega) h
    · have h1 := ratI_mono a hx (show x ≤ D 1 by omega) (by omega)
      rw [ratI_at a (k := 1) (by decide)] at h1
      omega
  | 3, _ =>
    by_cases c : D 2 < x
    · rw [rat_s2 (by omega) c]; exact itv_lt (by omega) (by omega) h
    · have h1 := ratI_mono a hx (show x ≤ D 2 by omega) (by omega)
      rw [ratI_at a (k := 2) (by decide)] at h1
      omega
theorem ratI_rg (a : Asc D R) (hx : D 0 ≤ x) (h3 : x ≤ D 3) : R 0 ≤ ratI D R x ∧ ratI D R x ≤ R 3 := by
  have h1 := ratI_mono a (Int.le_refl (D 0)) hx h3
  have h2 := ratI_mono a hx h3 (Int.le_refl _)
  rw [ratI_at a (k := 0) (by decide)] at h1
  rw [ratI_at a (k := 3) (by decide)] at h2
  exact ⟨h1, h2⟩
/-- x is the inverse of w -/
def Iv (D R : Nat → Int) (w x : Int) : Prop := D 0 ≤ x ∧ x ≤ D 3 ∧ w ≤ ratI D R x ∧ ∀ y, D 0 ≤ y → y < x → ratI D R y < w
theorem iv_uniq (h : Iv D R w x) (h' : Iv D R w x') : x = x' := by
  obtain ⟨a1, a2, a3, a4⟩ := h
  obtain ⟨b1, b2, b3, b4⟩ := h'
  rcases Int.lt_trichotomy x x' with q | q | q
  · have := b4 x a1 q; omega
  · exact q
  · have := a4 x' b1 q; omega
theorem iv_node (a : Asc D R) {k : Nat} (hk : k < 4) : Iv D R (R k) (D k) := by
  obtain ⟨h1, h2, -, -⟩ := a.d0 hk
  exact ⟨h1, h2, by rw [ratI_at a hk]; exact Int.le_refl _, fun y hy hlt => ratI_lt a hk hy hlt⟩
theorem iv_le {z : Int} (h : Iv D R (ratI D R z) x) (hz : D 0 ≤ z) : x ≤ z := by
  by_cases q : z < x
  · have := h.2.2.2 z hz q; omega
  · omega
theorem iv_mono (h : Iv D R w x) (h' : Iv D R w' x') (hw : w ≤ w') : x ≤ x' := by
  by_cases q : x' < x
  · have h1 := h.2.2.2 x' h'.1 q
    have h2 := h'.2.2.1
    omega
  · omega
theorem iv_fix (h : Iv D R w x) : Iv D R (ratI D R x) x := by
  refine ⟨h.1, h.2.1, Int.le_refl _, fun y hy hlt => ?_⟩
  have h1 := h.2.2.2 y hy hlt
  have h2 := h.2.2.1
  omega
end AS
/-! the class's tables -/
abbrev dI (g : Nat → Int32) (t k : Nat) : Int := (g (tD t k)).toInt
abbrev rI (g : Nat → Int32) (t k : Nat) : Int := (g (tR t k)).toInt
/-- a table with n nodes -/
def Tb (g : Nat → Int32) (t n : Nat) : Prop := g (tN t) = nI n ∧ (∀ k, k + 1 < n → dI g t k < dI g t (k + 1) ∧ rI g t k < rI g t (k + 1)) ∧ ∀ k, k < n → -200000 ≤ dI g t k ∧ dI g t k ≤ 850000 ∧ 1 ≤ rI g t k ∧ rI g t k ≤ 10000000
theorem tb_asc {g : Nat → Int32} {t : Nat} (h : Tb g t 4) : Asc (dI g t) (rI g t) := ⟨(h.2.1 0 (by decide)).1, (h.2.1 1 (by decide)).1, (h.2.1 2 (by decide)).1, (h.2.1 0 (by decide)).2, (h.2.1 1 (by decide)).2, (h.2.1 2 (by decide)).2⟩
section RT
variable {g : Nat → Int32} {t : Nat} {w : Int32}
theorem rat_go (h : Tb g t 4) {k f : Nat} (hk : k < 3) (hw : dI g t (k + 1) < w.toInt) : lp_X5_ratioAt_2 g t w (f + 1) (k + 1) = lp_X5_ratioAt_2 g t w f (k + 2) := by
  rw [lp_X5_ratioAt_2, h.1, if_neg (by rw [nI_leI (by omega) (by omega)]; omega), if_neg (by rw [show (12 : Int32) = nI 12 from rfl, nI_leI (by omega) (by omega)]; omega), if_pos (Int32.lt_iff_toInt_lt.mpr hw)]
theorem rat_st (h : Tb g t 4) {k f : Nat} (hk : k < 3) (h0 : dI g t k ≤ w.toInt) (hw : ¬ dI g t (k + 1) < w.toInt) : (lp_X5_ratioAt_2 g t w (f + 1) (k + 1)).toInt = itv (rI g t k) (rI g t (k + 1)) (dI g t k) (dI g t (k + 1)) w.toInt := by
  obtain ⟨hN, hA, hB⟩ := h
  have a1 := hA k (by omega)
  have b1 := hB k (by omega)
  have b2 := hB (k + 1) (by omega)
  have u1 : (g (tD t k)).toInt = dI g t k := rfl
  have u2 : (g (tD t (k + 1))).toInt = dI g t (k + 1) := rfl
  have u3 : (g (tR t k)).toInt = rI g t k := rfl
  have u4 : (g (tR t (k + 1))).toInt = rI g t (k + 1) := rfl
  have e : ((g (tD t (k + 1))).toInt64 - (g (tD t k)).toInt64).toInt = dI g t (k + 1) - dI g t k := by rw [Int64.toInt_sub, Int32.toInt_toInt64, Int32.toInt_toInt64, L_of _ (by omega)]
  rw [lp_X5_ratioAt_2, hN, if_neg (by rw [nI_leI (by omega) (by omega)]; omega), if_neg (by rw [show (12 : Int32) = nI 12 from rfl, nI_leI (by omega) (by omega)]; omega), if_neg (fun q => hw (Int32.lt_iff_toInt_lt.mp q)), Nat.add_sub_cancel, if_neg (by rw [Int64.le_iff_toInt_le, e, show (0 : Int64).toInt = 0 by decide]; omega)]
  exact itp64 (by omega) (by omega) (by omega) (by omega) (by omega) h0 (by omega) (by omega)
theorem rat_val (h : Tb g t 4) (h0 : dI g t 0 ≤ w.toInt) (h3 : w.toInt ≤ dI g t 3) : (sp_X5_ratioAt g t w).toInt = ratI (dI g t) (rI g t) w.toInt := by
  unfold sp_X5_ratioAt
  by_cases c1 : dI g t 1 < w.toInt
  · rw [rat_go h (k := 0) (by decide) c1]
    by_cases c2 : dI g t 2 < w.toInt
    · rw [rat_go h (k := 1) (by decide) c2, rat_s2 c1 c2]
      exact rat_st h (k := 2) (by decide) (by omega) (by show ¬ dI g t 3 < _; omega)
    · rw [rat_s1 c1 c2]
      exact rat_st h (k := 1) (by decide) (by omega) c2
  · rw [rat_s0 c1]
    exact rat_st h (k := 0) (by decide) h0 c1
/-- the halvings -/
theorem tf_lp (h : Tb g t 4) {v : Int64} : ∀ (m f k : Nat) (x y : Int32), m < f → k + m ≤ 31 → dI g t 0 ≤ x.toInt → x.toInt ≤ y.toInt → y.toInt ≤ dI g t 3 → y.toInt - x.toInt < 2 ^ m → v.toInt ≤ ratI (dI g t) (rI g t) y.toInt → (∀ z, dI g t 0 ≤ z → z < x.toInt → ratI (dI g t) (rI g t) z < v.toInt) → Iv (dI g t) (rI g t) v.toInt (lp_X5_temperatureFor_59 g t v f x y k).toInt := by
  have b0 := h.2.2 0 (by decide)
  have b3 := h.2.2 3 (by decide)
  have done : ∀ (f k : Nat) (x y : Int32), k ≤ 31 → dI g t 0 ≤ x.toInt → x.toInt = y.toInt → y.toInt ≤ dI g t 3 → v.toInt ≤ ratI (dI g t) (rI g t) y.toInt → (∀ z, dI g t 0 ≤ z → z < x.toInt → ratI (dI g t) (rI g t) z < v.toInt) → Iv (dI g t) (rI g t) v.toInt (lp_X5_temperatureFor_59 g t v (f + 1) x y k).toInt := by
    intro f k x y hk h0 hxy h3 hy hz
    rw [lp_X5_temperatureFor_59, if_neg (by rw [show (32 : Int32) = nI 32 from rfl, nI_leI (by omega) (by omega)]; omega), if_pos (by rw [Int32.le_iff_toInt_le]; omega)]
    exact ⟨by omega, h3, hy, by rw [← hxy]; exact hz⟩
  intro m
  induction m with
  | zero =>
    intro f k x y hf hk h0 hxy h3 hlt hy hz
    obtain ⟨f, rfl⟩ : ∃ f0, f = f0 + 1 := ⟨f - 1, by omega⟩
    exact done f k x y (by omega) h0 (by omega) h3 hy hz
  | succ m ih =>
    intro f k x y hf hk h0 hxy h3 hlt hy hz
    obtain ⟨f, rfl⟩ : ∃ f0, f = f0 + 1 := ⟨f - 1, by omega⟩
    by_cases c : y.toInt = x.toInt
    · exact done f k x y (by omega) h0 c.symm h3 hy hz
    have p2 : (2 : Int) ^ (m + 1) = 2 * 2 ^ m := by rw [Int.pow_succ, Int.mul_comm]
    have e1 : (y - x).toInt = y.toInt - x.toInt := by rw [Int32.toInt_sub, I_of _ (by omega)]
    have e2 : ((y - x) / 2).toInt = (y.toInt - x.toInt) / 2 := by rw [Int32.toInt_div, e1, show (2 : Int32).toInt = 2 by decide, Int.tdiv_eq_ediv_of_nonneg (by omega), I_of _ (by omega)]
    have e3 : (x + (y - x) / 2).toInt = x.toInt + (y.toInt - x.toInt) / 2 := by rw [Int32.toInt_add, e2, I_of _ (by omega)]
    rw [lp_X5_temperatureFor_59, if_neg (by rw [show (32 : Int32) = nI 32 from rfl, nI_leI (by omega) (by omega)]; omega), if_neg (by rw [Int32.le_iff_toInt_le]; omega)]
    have hv : (sp_X5_ratioAt g t (x + (y - x) / 2)).toInt = ratI (dI g t) (rI g t) (x.toInt + (y.toInt - x.toInt) / 2) := by rw [rat_val h (by omega) (by omega), e3]
    by_cases c2 : (sp_X5_ratioAt g t (x + (y - x) / 2)).toInt64 < v
    · rw [if_pos c2]
      rw [Int64.lt_iff_toInt_lt, Int32.toInt_toInt64, hv] at c2
      have e4 : (x + (y - x) / 2 + 1).toInt = x.toInt + (y.toInt - x.toInt) / 2 + 1 := by rw [Int32.toInt_add, e3, show (1 : Int32).toInt = 1 by decide, I_of _ (by omega)]
      refine ih f (k + 1) _ y (by omega) (by omega) (by omega) (by omega) h3 (by omega) hy (fun z hz0 hz1 => ?_)
      have hm := ratI_mono (tb_asc h) hz0 (show z ≤ x.toInt + (y.toInt - x.toInt) / 2 by omega) (by omega)
      omega
    · rw [if_neg c2]
      rw [Int64.lt_iff_toInt_lt, Int32.toInt_toInt64, hv] at c2
      exact ih f (k + 1) x _ (by omega) (by omega) h0 (by omega) (by omega) (by omega) (by rw [e3]; omega) hz
theorem tmp_k {k : Nat} (hk : k < 12) : sp_X5_temperatureOf g t (nI k) = g (tD t k) := by
  unfold sp_X5_temperatureOf
  rw [if_neg (nI_pos (by omega)), if_neg (by rw [show (12 : Int32) = nI 12 from rfl, nI_leI (by omega) (by omega)]; omega), nI_clamp (by omega)]
theorem rto_k {k : Nat} (hk : k < 12) : sp_X5_ratioOf g t (nI k) = g (tR t k) := by
  unfold sp_X5_ratioOf
  rw [if_neg (nI_pos (by omega)), if_neg (by rw [show (12 : Int32) = nI 12 from rfl, nI_leI (by omega) (by omega)]; omega), nI_clamp (by omega)]
/-- what temperatureFor answers -/
theorem tf_val (h : Tb g t 4) {v : Int64} : (sp_X5_temperatureFor g t v = -2000000004 ∧ ¬ (rI g t 0 ≤ v.toInt ∧ v.toInt ≤ rI g t 3)) ∨ (rI g t 0 ≤ v.toInt ∧ v.toInt ≤ rI g t 3 ∧ Iv (dI g t) (rI g t) v.toInt (sp_X5_temperatureFor g t v).toInt) := by
  have b0 := h.2.2 0 (by decide)
  have b3 := h.2.2 3 (by decide)
  have a := tb_asc h
  obtain ⟨a1, a2, a3, a4, a5, a6⟩ := id a
  have u1 : (g (tD t 0)).toInt = dI g t 0 := rfl
  have u2 : (g (tD t 3)).toInt = dI g t 3 := rfl
  have u3 : (g (tR t 0)).toInt = rI g t 0 := rfl
  have u4 : (g (tR t 3)).toInt = rI g t 3 := rfl
  unfold sp_X5_temperatureFor
  rw [h.1, if_neg (show ¬ nI 4 < 2 by decide), show nI 4 - 1 = nI 3 by decide, show (0 : Int32) = nI 0 from rfl, tmp_k (by decide), tmp_k (by decide), rto_k (by decide), rto_k (by decide)]
  by_cases c1 : v < (g (tR t 0)).toInt64
  · rw [if_pos c1]
    rw [Int64.lt_iff_toInt_lt, Int32.toInt_toInt64] at c1
    exact Or.inl ⟨rfl, by omega⟩
  · rw [if_neg c1]
    rw [Int64.lt_iff_toInt_lt, Int32.toInt_toInt64] at c1
    by_cases c2 : v ≤ (g (tR t 3)).toInt64
    · rw [if_pos c2]
      rw [Int64.le_iff_toInt_le, Int32.toInt_toInt64] at c2
      refine Or.inr ⟨by omega, c2, tf_lp h 21 33 0 _ _ (by decide) (by decide) (Int.le_refl _) (by omega) (Int.le_refl _) (by omega) ?_ (fun z h1 h2 => by omega)⟩
      rw [show (g (tD t 3)).toInt = dI g t 3 from rfl, ratI_at a (k := 3) (by decide)]
      exact c2
    · rw [if_neg c2]
      rw [Int64.le_iff_toInt_le, Int32.toInt_toInt64] at c2
      exact Or.inl ⟨rfl, by omega⟩
end RT
