theorem pC_row {μ : Mu} {c b c' b' n x : Nat} (h : x ≠ c) : (pC μ c b c' b' n).1 x = μ.1 x := by
  funext y
  show (if x = c ∧ b ≤ y ∧ y < b + n then _ else μ.1 x y) = μ.1 x y
  rw [if_neg (fun q => h q.1)]
def ni (N : Nat) (x : Int32) : Prop := x = nI x.toNatClampNeg ∧ x.toNatClampNeg < N
theorem ni_of {N : Nat} {a x : Int32} (h : ni N x) (hN : N < 2 ^ 31) (c : (0 : Int32) ≤ a ∧ a ≤ x - 1) : a = nI a.toNatClampNeg ∧ a.toNatClampNeg < x.toNatClampNeg := by
  obtain ⟨c1, c2⟩ := c
  obtain ⟨j, hj, rfl⟩ := nI_of (x := a) (fun q => by rw [Int32.le_iff_toInt_le] at c1; rw [Int32.lt_iff_toInt_lt] at q; omega)
  rw [nI_clamp hj]
  refine ⟨rfl, ?_⟩
  have hx := h.1
  have hxN := h.2
  rcases Nat.eq_zero_or_pos x.toNatClampNeg with q | q
  · rw [hx, q] at c2
    have : ¬ nI j ≤ nI 0 - 1 := by
      rw [Int32.le_iff_toInt_le, nI_toInt hj, show (nI 0 - 1).toInt = -1 by decide]
      omega
    exact absurd c2 this
  · rw [hx, show nI x.toNatClampNeg - 1 = nI (x.toNatClampNeg - 1) from pk_sub (b := 1) q, nI_leI hj (by omega)] at c2
    omega
theorem L_of (n : Int) (h : -9223372036854775808 ≤ n ∧ n < 9223372036854775808) : n.bmod (2 ^ 64) = n := by
  rw [Int.bmod_eq_of_le] <;> omega
theorem I_of (n : Int) (h : -2147483648 ≤ n ∧ n < 2147483648) : n.bmod (2 ^ 32) = n := by
  rw [Int.bmod_eq_of_le] <;> omega
/-- what is between two nodes -/
theorem itp {p q a b w : Int32} (hp : 1 ≤ p.toInt) (hq : q.toInt ≤ 10000000) (hpq : p.toInt ≤ q.toInt) (ha : -200000 ≤ a.toInt) (hb : b.toInt ≤ 850000) (hw1 : a.toInt ≤ w.toInt) (hw2 : w.toInt ≤ b.toInt) (hab : a.toInt < b.toInt) : (p + (((q - p).toInt64 * (w - a).toInt64) / ((b - a).toInt64)).toInt32).toInt = p.toInt + (q.toInt - p.toInt) * (w.toInt - a.toInt) / (b.toInt - a.toInt) ∧ 0 ≤ (q.toInt - p.toInt) * (w.toInt - a.toInt) / (b.toInt - a.toInt) ∧ (q.toInt - p.toInt) * (w.toInt - a.toInt) / (b.toInt - a.toInt) ≤ q.toInt - p.toInt := by
  have e1 : (q - p).toInt = q.toInt - p.toInt := by rw [Int32.toInt_sub, I_of _ (by omega)]
  have e2 : (w - a).toInt = w.toInt - a.toInt := by rw [Int32.toInt_sub, I_of _ (by omega)]
  have e3 : (b - a).toInt = b.toInt - a.toInt := by rw [Int32.toInt_sub, I_of _ (by omega)]
  generalize hX : q.toInt - p.toInt = X at *
  generalize hY : w.toInt - a.toInt = Y at *
  generalize hZ : b.toInt - a.toInt = Z at *
  have hXY : 0 ≤ X * Y := Int.mul_nonneg (by omega) (by omega)
  have hXY2 : X * Y ≤ 10000000 * 1050000 := Int.mul_le_mul (by omega) (by omega) (by omega) (by omega)
  have hd0 : 0 ≤ X * Y / Z := Int.ediv_nonneg hXY (by omega)
  have hd1 : X * Y / Z ≤ X := by
    have h1 : X * Y ≤ X * Z := Int.mul_le_mul_of_nonneg_left (by omega) (by omega)
    have h2 : X * Y / Z ≤ X * Z / Z := Int.ediv_le_ediv (by omega) h1
    rwa [Int.mul_ediv_cancel _ (by omega)] at h2
  have m : ((q - p).toInt64 * (w - a).toInt64).toInt = X * Y := by
    rw [Int64.toInt_mul, Int32.toInt_toInt64, Int32.toInt_toInt64, e1, e2, L_of _ (by omega)]
  have d : (((q - p).toInt64 * (w - a).toInt64) / ((b - a).toInt64)).toInt = X * Y / Z := by
    rw [Int64.toInt_div, m, Int32.toInt_toInt64, e3, Int.tdiv_eq_ediv_of_nonneg hXY, L_of _ (by omega)]
  have d2 : (((q - p).toInt64 * (w - a).toInt64) / ((b - a).toInt64)).toInt32.toInt = X * Y / Z := by
    rw [Int64.toInt_toInt32, d, I_of _ (by omega)]
  refine ⟨?_, hd0, hd1⟩
  rw [Int32.toInt_add, d2, I_of _ (by omega)]
theorem na_rng {a L H : Int32} (l h : Nat) (hL : L = nI l) (hH : H = nI h) (hk : h < 2 ^ 31 - 1) (hlh : l ≤ h) (c : L ≤ a ∧ a ≤ H) : a = nI a.toNatClampNeg ∧ l ≤ a.toNatClampNeg ∧ a.toNatClampNeg < h + 1 := by
  obtain ⟨c1, c2⟩ := c
  subst hL hH
  obtain ⟨j, hj, rfl⟩ := nI_of (x := a) (fun q => by rw [Int32.le_iff_toInt_le, nI_toInt (by omega)] at c1; rw [Int32.lt_iff_toInt_lt, Int32.toInt_zero] at q; omega)
  rw [nI_leI (by omega) hj] at c1
  rw [nI_leI hj (by omega)] at c2
  rw [nI_clamp hj]
  exact ⟨rfl, c1, by omega⟩
theorem ni_nI {N k : Nat} (h : k < N) (hN : N < 2 ^ 31) : ni N (nI k) := by
  unfold ni
  rw [nI_clamp (by omega)]
  exact ⟨rfl, h⟩
theorem ni_z {N : Nat} (h : 0 < N) : ni N 0 := ⟨rfl, h⟩
theorem le64 (a b : Int32) : a.toInt64 ≤ b.toInt64 ↔ a ≤ b := by
  rw [Int64.le_iff_toInt_le, Int32.le_iff_toInt_le, Int32.toInt_toInt64, Int32.toInt_toInt64]
theorem tabAt {g : Nat → Int32} (h : ni 4 (g 0)) (a : Int32) : sp_X4_tableAt g a = if 0 ≤ a ∧ a ≤ g 0 - 1 then some a.toNatClampNeg else none := by
  have h2 := h.2
  by_cases c : 0 ≤ a ∧ a ≤ g 0 - 1
  · rw [if_pos c]
    obtain ⟨c1, c2⟩ := ni_of h (by decide) c
    unfold sp_X4_tableAt
    rw [if_neg (by rw [Int32.lt_iff_toInt_lt]; have := c.1; rw [Int32.le_iff_toInt_le] at this; omega), if_neg (by rw [c1, h.1, nI_leI (by omega) (by omega)]; omega), if_neg (by rw [c1, show (3 : Int32) = nI 3 from rfl, nI_leI (by omega) (by omega)]; omega)]
  · rw [if_neg c]
    unfold sp_X4_tableAt
    by_cases c1 : a < 0
    · rw [if_pos c1]
    · rw [if_neg c1]
      by_cases c2 : g 0 ≤ a
      · rw [if_pos c2]
      · exfalso
        apply c
        obtain ⟨j, hj, rfl⟩ := nI_of (x := a) c1
        rw [h.1] at c2 ⊢
        rw [nI_leI (by omega) hj] at c2
        refine ⟨by rw [show (0 : Int32) = nI 0 from rfl, nI_leI (by omega) hj]; omega, ?_⟩
        rw [show nI (g 0).toNatClampNeg - 1 = nI ((g 0).toNatClampNeg - 1) from pk_sub (b := 1) (by omega), nI_leI hj (by omega)]
        omega
theorem tmpOf {g : Nat → Int32} {t : Nat} {b : Int32} (h0 : ¬ b < 0) (h1 : ¬ (12 : Int32) ≤ b) : sp_X5_temperatureOf g t b = g (11 + 25 * t + b.toNatClampNeg) := by
  unfold sp_X5_temperatureOf
  rw [if_neg h0, if_neg h1]
  rfl
theorem ratOf {g : Nat → Int32} {t : Nat} {b : Int32} (h0 : ¬ b < 0) (h1 : ¬ (12 : Int32) ≤ b) : sp_X5_ratioOf g t b = g (23 + 25 * t + b.toNatClampNeg) := by
  unfold sp_X5_ratioOf
  rw [if_neg h0, if_neg h1]
  rfl
/-- what is between two nodes, by longs alone -/
theorem itp64 {p q a b w : Int32} (hp : 1 ≤ p.toInt) (hq : q.toInt ≤ 10000000) (hpq : p.toInt ≤ q.toInt) (ha : -200000 ≤ a.toInt) (hb : b.toInt ≤ 850000) (hw1 : a.toInt ≤ w.toInt) (hw2 : w.toInt ≤ b.toInt) (hab : a.toInt < b.toInt) : ((p.toInt64 + (((q.toInt64 - p.toInt64) * (w.toInt64 - a.toInt64)) / (b.toInt64 - a.toInt64))).toInt32).toInt = p.toInt + (q.toInt - p.toInt) * (w.toInt - a.toInt) / (b.toInt - a.toInt) := by
  obtain ⟨-, h0, h1⟩ := itp hp hq hpq ha hb hw1 hw2 hab
  have e1 : (q.toInt64 - p.toInt64).toInt = q.toInt - p.toInt := by rw [Int64.toInt_sub, Int32.toInt_toInt64, Int32.toInt_toInt64, L_of _ (by omega)]
  have e2 : (w.toInt64 - a.toInt64).toInt = w.toInt - a.toInt := by rw [Int64.toInt_sub, Int32.toInt_toInt64, Int32.toInt_toInt64, L_of _ (by omega)]
  have e3 : (b.toInt64 - a.toInt64).toInt = b.toInt - a.toInt := by rw [Int64.toInt_sub, Int32.toInt_toInt64, Int32.toInt_toInt64, L_of _ (by omega)]
  have hXY : 0 ≤ (q.toInt - p.toInt) * (w.toInt - a.toInt) := Int.mul_nonneg (by omega) (by omega)
  have hXY2 : (q.toInt - p.toInt) * (w.toInt - a.toInt) ≤ 10000000 * 1050000 := Int.mul_le_mul (by omega) (by omega) (by omega) (by omega)
  have m : ((q.toInt64 - p.toInt64) * (w.toInt64 - a.toInt64)).toInt = (q.toInt - p.toInt) * (w.toInt - a.toInt) := by
    rw [Int64.toInt_mul, e1, e2, L_of _ (by omega)]
  have d : (((q.toInt64 - p.toInt64) * (w.toInt64 - a.toInt64)) / (b.toInt64 - a.toInt64)).toInt = (q.toInt - p.toInt) * (w.toInt - a.toInt) / (b.toInt - a.toInt) := by
    rw [Int64.toInt_div, m, e3, Int.tdiv_eq_ediv_of_nonneg hXY, L_of _ (by omega)]
  rw [Int64.toInt_toInt32, Int64.toInt_add, Int32.toInt_toInt64, d, L_of _ (by omega), I_of _ (by omega)]
theorem i2t (w : Int32) : (-200000 : Int64) ≤ w.toInt64 ∧ w.toInt64 ≤ 850000 ↔ (-200000 : Int32) ≤ w ∧ w ≤ 850000 := by
  rw [show (-200000 : Int64) = (-200000 : Int32).toInt64 by decide, show (850000 : Int64) = (850000 : Int32).toInt64 by decide, le64, le64]
theorem nI_ij {a b : Nat} (ha : a < 2 ^ 31) (hb : b < 2 ^ 31) (h : nI a = nI b) : a = b := by
  have := congrArg Int32.toInt h
  rw [nI_toInt ha, nI_toInt hb] at this
  omega
theorem senAt {g : Nat → Int32} (h : ni 7 (g 1)) (a : Int32) : sp_X4_sensorAt g a = if 0 ≤ a ∧ a ≤ g 1 - 1 then some a.toNatClampNeg else none := by
  have h2 := h.2
  by_cases c : 0 ≤ a ∧ a ≤ g 1 - 1
  · rw [if_pos c]
    obtain ⟨c1, c2⟩ := ni_of h (by decide) c
    unfold sp_X4_sensorAt
    rw [if_neg (by rw [Int32.lt_iff_toInt_lt]; have := c.1; rw [Int32.le_iff_toInt_le] at this; omega), if_neg (by rw [c1, h.1, nI_leI (by omega) (by omega)]; omega), if_neg (by rw [c1, show (6 : Int32) = nI 6 from rfl, nI_leI (by omega) (by omega)]; omega)]
  · rw [if_neg c]
    unfold sp_X4_sensorAt
    by_cases c1 : a < 0
    · rw [if_pos c1]
    · rw [if_neg c1]
      by_cases c2 : g 1 ≤ a
      · rw [if_pos c2]
      · exfalso
        apply c
        obtain ⟨j, hj, rfl⟩ := nI_of (x := a) c1
        rw [h.1] at c2 ⊢
        rw [nI_leI (by omega) hj] at c2
        refine ⟨by rw [show (0 : Int32) = nI 0 from rfl, nI_leI (by omega) hj]; omega, ?_⟩
        rw [show nI (g 1).toNatClampNeg - 1 = nI ((g 1).toNatClampNeg - 1) from pk_sub (b := 1) (by omega), nI_leI hj (by omega)]
        omega
def ur (g : Nat → Int32) (k : Nat) (v : Int32) : Nat → Int32 := fun y => if y = k then v else g y
theorem ur_s {g : Nat → Int32} {k : Nat} {v : Int32} : ur g k v k = v := if_pos rfl
theorem ur_n {g : Nat → Int32} {k y : Nat} {v : Int32} (h : y ≠ k) : ur g k v y = g y := if_neg h
theorem row_s (μ : Mu) (c k : Nat) (v : Int32) : (pM μ c k v).1 c = ur (μ.1 c) k v := by
  funext y
  simp [pM, upM, ur]
theorem row_n (μ : Mu) {c c' k : Nat} {v : Int32} (h : c' ≠ c) : (pM μ c k v).1 c' = μ.1 c' := upM_r _ _ h
theorem row_k (μ : Mu) {c k k' : Nat} {v : Int32} (h : k' ≠ k) : (pM μ c k v).1 c k' = μ.1 c k' := upM_k _ _ h
theorem row_at (μ : Mu) {c k : Nat} {v : Int32} : (pM μ c k v).1 c k = v := upM_s _ _ _ _
theorem rowC_s (μ : Mu) (c b c' b' n : Nat) {x : Nat} (h : b ≤ x ∧ x < b + n) : (pC μ c b c' b' n).1 c x = μ.1 c' (b' + (x - b)) := if_pos ⟨rfl, h.1, h.2⟩
theorem rowC_o (μ : Mu) (c b c' b' n : Nat) {x : Nat} (h : ¬ (b ≤ x ∧ x < b + n)) : (pC μ c b c' b' n).1 c x = μ.1 c x := if_neg (fun q => h q.2)
def CPy (μ0 : Mu) (j j2 : Nat) (S : Nat → Prop) (m : Mu) : Prop := m.2 = μ0.2 ∧ (∀ c, c ≠ j → m.1 c = μ0.1 c) ∧ (∀ x, S x → m.1 j x = μ0.1 j2 x) ∧ ∀ x, ¬ S x → m.1 j x = μ0.1 j x
theorem cp_0 {μ0 : Mu} {j j2 : Nat} : CPy μ0 j j2 (fun _ => False) μ0 := ⟨rfl, fun _ _ => rfl, fun _ h => h.elim, fun _ _ => rfl⟩
theorem cp_M {μ0 m : Mu} {j j2 k : Nat} {S : Nat → Prop} {v : Int32} (h : CPy μ0 j j2 S m) (hv : v = μ0.1 j2 k) : CPy μ0 j j2 (fun x => S x ∨ x = k) (pM m j k v) := by
  refine ⟨h.1, fun c hc => (row_n m hc).trans (h.2.1 c hc), fun x hx => ?_, fun x hx => ?_⟩
  · by_cases e : x = k
    · subst e; rw [row_at, hv]
    · rw [row_k m e]; exact h.2.2.1 x (hx.resolve_right e)
  · rw [row_k m (fun e => hx (Or.inr e))]; exact h.2.2.2 x (fun q => hx (Or.inl q))
theorem cp_C {μ0 m : Mu} {j j2 b n : Nat} {S : Nat → Prop} (h : CPy μ0 j j2 S m) (hne : j2 ≠ j) : CPy μ0 j j2 (fun x => S x ∨ (b ≤ x ∧ x < b + n)) (pC m j b j2 b n) := by
  refine ⟨h.1, fun c hc => (pC_row hc).trans (h.2.1 c hc), fun x hx => ?_, fun x hx => ?_⟩
  · by_cases e : b ≤ x ∧ x < b + n
    · rw [rowC_s m _ _ _ _ _ e, h.2.1 j2 hne, show b + (x - b) = x by omega]
    · rw [rowC_o m _ _ _ _ _ e]; exact h.2.2.1 x (hx.resolve_right e)
  · rw [rowC_o m _ _ _ _ _ (fun e => hx (Or.inr e))]; exact h.2.2.2 x (fun q => hx (Or.inl q))
theorem cp_eq {μ0 m : Mu} {j j2 : Nat} {S S' : Nat → Prop} (h : CPy μ0 j j2 S m) (e : ∀ x, S x ↔ S' x) : CPy μ0 j j2 S' m := ⟨h.1, h.2.1, fun x hx => h.2.2.1 x ((e x).mpr hx), fun x hx => h.2.2.2 x (fun q => hx ((e x).mp q))⟩
theorem cp_X5 {μ0 m : Mu} {j j2 t : Nat} {S : Nat → Prop} (h : CPy μ0 j j2 S m) (hne : j2 ≠ j) : CPy μ0 j j2 (fun x => S x ∨ (10 + 25 * t ≤ x ∧ x < 10 + 25 * t + 25)) (sp_X5_copy m j t j2 t) := by
  have e : ∀ k, m.1 j2 k = μ0.1 j2 k := fun k => by rw [h.2.1 j2 hne]
  unfold sp_X5_copy
  refine cp_eq (cp_C (cp_C (cp_M h (e _)) hne) hne) (fun x => ?_)
  unfold tN tD tR
  constructor
  · rintro (((q | q) | q) | q)
    · exact Or.inl q
    all_goals (right; omega)
  · rintro (q | q)
    · exact Or.inl (Or.inl (Or.inl q))
    · by_cases a : x = 10 + 25 * t
      · exact Or.inl (Or.inl (Or.inr a))
      · by_cases b : x < 23 + 25 * t
        · exact Or.inl (Or.inr (by omega))
        · exact Or.inr (by omega)
theorem cp_X3 {μ0 m : Mu} {j j2 n : Nat} {S : Nat → Prop} (h : CPy μ0 j j2 S m) (hne : j2 ≠ j) : CPy μ0 j j2 (fun x => S x ∨ (85 + 28 * n ≤ x ∧ x < 85 + 28 * n + 28)) (sp_X3_copy m j n j2 n) := by
  have e : ∀ k, m.1 j2 k = μ0.1 j2 k := fun k => by rw [h.2.1 j2 hne]
  unfold sp_X3_copy
  refine cp_eq (cp_C (cp_C (cp_C (cp_M (cp_M (cp_M (cp_M (cp_M (cp_M (cp_M (cp_M (cp_M (cp_M (cp_M (cp_M h (e _)) (e _)) (e _)) (e _)) (e _)) (e _)) (e _)) (e _)) (e _)) (e _)) (e _)) (e _)) hne) hne) hne) (fun x => ?_)
  unfold sF
  simp only [or_assoc]
  constructor
  · rintro (q | q)
    · exact Or.inl q
    · right; omega
  · rintro (q | q)
    · exact Or.inl q
    · right; omega
/-- a state's copy -/
theorem cp_X4 (μ : Mu) {j j2 : Nat} (hne : j2 ≠ j) : CPy μ j j2 (fun x => x < 253) (sp_X4_copy μ j j2) := by
  unfold sp_X4_copy
  refine cp_eq (cp_C (cp_X3 (cp_X3 (cp_X3 (cp_X3 (cp_X3 (cp_X3 (cp_X5 (cp_X5 (cp_X5 (cp_M (cp_M (cp_M cp_0 rfl) rfl) rfl) hne) hne) hne) hne) hne) hne) hne) hne) hne) hne) (fun x => ?_)
  simp only [or_assoc, false_or]
  omega
/-- what recording leaves: K turns when it is full -/
def Kr (st : Nat) (K : Nat → Nat) : Nat → Nat := if st = 4 then fun y => if y = 3 then K 0 else if y = 2 then K 3 else if y = 1 then K 2 else if y = 0 then K 1 else K y else K
theorem rec_ok (μ : Mu) {st : Nat} (h6 : μ.1 6 0 = nI st) (hst : st ≤ 4) (hK : KOk μ.2.2) : (sp_X0_record μ).2.1 = μ.2.1 ∧ (sp_X0_record μ).2.2 = Kr st μ.2.2 ∧ (sp_X0_record μ).1 6 0 = nI (min st 3 + 1) ∧ (∀ y, y < 253 → (sp_X0_record μ).1 (Kr st μ.2.2 (min st 3)) y = μ.1 0 y) ∧ (∀ c, c ≠ 6 → c ≠ Kr st μ.2.2 (min st 3) → (sp_X0_record μ).1 c = μ.1 c) ∧ ∀ k, k ≠ 0 → (sp_X0_record μ).1 6 k = μ.1 6 k := by
  have key : ∀ (m : Mu) (s2 : Nat) (K' : Nat → Nat), m.2.2 = K' → s2 < 4 → m.1 6 0 = nI s2 → 2 ≤ K' s2 → K' s2 < 6 → (pM (sp_X4_copy m (m.2.2 ((m.1 6 0).toNatClampNeg)) 0) 6 0 (((sp_X4_copy m (m.2.2 ((m.1 6 0).toNatClampNeg)) 0).1 6 0) + 1)).2 = m.2 ∧ (pM (sp_X4_copy m (m.2.2 ((m.1 6 0).toNatClampNeg)) 0) 6 0 (((sp_X4_copy m (m.2.2 ((m.1 6 0).toNatClampNeg)) 0).1 6 0) + 1)).1 6 0 = nI (s2 + 1) ∧ (∀ y, y < 253 → (pM (sp_X4_copy m (m.2.2 ((m.1 6 0).toNatClampNeg)) 0) 6 0 (((sp_X4_copy m (m.2.2 ((m.1 6 0).toNatClampNeg)) 0).1 6 0) + 1)).1 (K' s2) y = m.1 0 y) ∧ (∀ c, c ≠ 6 → c ≠ K' s2 → (pM (sp_X4_copy m (m.2.2 ((m.1 6 0).toNatClampNeg)) 0) 6 0 (((sp_X4_copy m (m.2.2 ((m.1 6 0).toNatClampNeg)) 0).1 6 0) + 1)).1 c = m.1 c) ∧ ∀ k, k ≠ 0 → (pM (sp_X4_copy m (m.2.2 ((m.1 6 0).toNatClampNeg)) 0) 6 0 (((sp_X4_copy m (m.2.2 ((m.1 6 0).toNatClampNeg)) 0).1 6 0) + 1)).1 6 k = m.1 6 k := by
    intro m s2 K' hK' hs h6' hk1 hk2
    rw [h6', nI_clamp (by omega), hK']
    have cp := cp_X4 m (j := K' s2) (j2 := 0) (by omega)
    have e6 : (sp_X4_copy m (K' s2) 0).1 6 = m.1 6 := cp.2.1 6 (by omega)
    refine ⟨cp.1, ?_, fun y hy => ?_, fun c hc hc2 => ?_, fun k hk => ?_⟩
    · rw [row_at, e6, h6']; exact nI_add s2 1
    · rw [row_n _ (by omega)]; exact cp.2.2.1 y hy
    · rw [row_n _ hc]; exact cp.2.1 c hc2
    · rw [row_k _ hk, e6]
  unfold sp_X0_record
  have hk0 := hK 0 (by omega)
  by_cases c : st = 4
  · subst c
    rw [if_neg (by rw [h6]; decide)]
    have d6 : (sp_X0_dropOldest μ).1 6 0 = nI 3 := row_at _
    have dK : (sp_X0_dropOldest μ).2.2 = Kr 4 μ.2.2 := by
      funext y
      show va_up (va_up (va_up (va_up μ.2.2 0 (μ.2.2 1)) 1 (μ.2.2 2)) 2 (μ.2.2 3)) 3 (μ.2.2 0) y = _
      unfold va_up Kr
      rfl
    rw [if_neg (by rw [d6]; decide), if_neg (by rw [d6]; decide)]
    obtain ⟨k1, k2, k3, k4, k5⟩ := key _ 3 _ dK (by omega) d6 (by show 2 ≤ μ.2.2 0; omega) (by show μ.2.2 0 < 6; omega)
    have k1a := congrArg Prod.fst k1
    have k1b := congrArg Prod.snd k1
    refine ⟨k1a, k1b.trans dK, k2, fun y hy => (k3 y hy).trans ?_, fun c hc hc2 => (k4 c hc hc2).trans ?_, fun k hk => (k5 k hk).trans ?_⟩
    · show (pM _ 6 0 _).1 0 y = _
      rw [row_n _ (by omega)]; rfl
    · show (pM _ 6 0 _).1 c = _
      rw [row_n _ hc]; rfl
    · show (pM _ 6 0 _).1 6 k = _
      rw [row_k _ hk]; rfl
  · have hs : st < 4 := by omega
    have hk := hK st hs
    rw [if_pos (by rw [h6, show (4 : Int32) = nI 4 from rfl, Int32.lt_iff_toInt_lt, nI_toInt (by omega), nI_toInt (by omega)]; omega), if_neg (by rw [h6, Int32.lt_iff_toInt_lt, nI_toInt (by omega), Int32.toInt_zero]; omega), if_neg (by rw [h6, show (4 : Int32) = nI 4 from rfl, nI_leI (by omega) (by omega)]; omega)]
    obtain ⟨k1, k2, k3, k4, k5⟩ := key μ st μ.2.2 rfl hs h6 hk.1 hk.2
    have eK : Kr st μ.2.2 = μ.2.2 := if_neg c
    rw [eK, show min st 3 = st by omega]
    exact ⟨congrArg Prod.fst k1, congrArg Prod.snd k1, k2, k3, k4, k5⟩
theorem Kr_ok {st : Nat} {K : Nat → Nat} (h : KOk K) : KOk (Kr st K) := by
  intro y hy
  unfold Kr
  by_cases c : st = 4
  · rw [if_pos c]
    have h0 := h 0 (by omega); have h1 := h 1 (by omega); have h2 := h 2 (by omega); have h3 := h 3 (by omega)
    rcases (show y = 0 ∨ y = 1 ∨ y = 2 ∨ y = 3 by omega) with rfl | rfl | rfl | rfl
    · exact h1
    · exact h2
    · exact h3
    · exact h0
  · rw [if_neg c]; exact h y hy
theorem i2g {L H w : Int32} {L' H' : Int64} (hL : L.toInt64 = L') (hH : H.toInt64 = H') : L' ≤ w.toInt64 ∧ w.toInt64 ≤ H' ↔ L ≤ w ∧ w ≤ H := by
  rw [← hL, ← hH, le64, le64]
theorem lead_j {g : Nat → Int32} {n j : Nat} (hj : j < 4) : sp_X3_leadOf g n (nI j) = g (sF n (12 + j)) := by
  unfold sp_X3_leadOf
  rw [if_neg (nI_pos (by omega)), if_neg (by rw [show (4 : Int32) = nI 4 from rfl, nI_leI (by omega) (by omega)]; omega), nI_clamp (by omega)]
theorem setl_j {m : Mu} {n j : Nat} {v : Int32} (hj : j < 4) : sp_X3_setLead m 0 n (nI j) v = pM m 0 (sF n (12 + j)) v := by
  unfold sp_X3_setLead
  rw [if_neg (nI_pos (by omega)), if_neg (by rw [show (4 : Int32) = nI 4 from rfl, nI_leI (by omega) (by omega)]; omega), nI_clamp (by omega)]
theorem stra_j {g : Nat → Int32} {n j : Nat} (hj : j < 3) : sp_X3_strainOf g n (nI j) = g (sF n (16 + j)) := by
  unfold sp_X3_strainOf
  rw [if_neg (nI_pos (by omega)), if_neg (by rw [show (3 : Int32) = nI 3 from rfl, nI_leI (by omega) (by omega)]; omega), nI_clamp (by omega)]
theorem sets_j {m : Mu} {n j : Nat} {v : Int32} (hj : j < 3) : sp_X3_setStrain m 0 n (nI j) v = pM m 0 (sF n (16 + j)) v := by
  unfold sp_X3_setStrain
  rw [if_neg (nI_pos (by omega)), if_neg (by rw [show (3 : Int32) = nI 3 from rfl, nI_leI (by omega) (by omega)]; omega), nI_clamp (by omega)]
theorem l2i {z : Int64} (h : (1000 : Int64) ≤ z ∧ z ≤ 2000000) : 1000 ≤ z.toInt32.toInt ∧ z.toInt32.toInt ≤ 2000000 := by
  obtain ⟨h1, h2⟩ := h
  rw [Int64.le_iff_toInt_le] at h1 h2
  rw [show (1000 : Int64).toInt = 1000 by decide] at h1
  rw [show (2000000 : Int64).toInt = 2000000 by decide] at h2
  rw [Int64.toInt_toInt32, I_of _ (by omega)]
  exact ⟨h1, h2⟩
theorem b_in {a L : Int32} (l : Nat) (hL : L = nI l) (hl : l < 1000) (c : (0 : Int32) ≤ a ∧ a ≤ L) : ∃ i, i < l + 1 ∧ a = nI i := by
  obtain ⟨a1, -, a3⟩ := na_rng 0 l rfl hL (by omega) (by omega) c
  exact ⟨_, a3, a1⟩
theorem set_j {g : Nat → Int32} {j : Nat} (hj : j < 7) : sp_X4_setting g (nI j) = g (3 + j) := by
  unfold sp_X4_setting
  rw [if_neg (nI_pos (by omega)), if_neg (by rw [show (7 : Int32) = nI 7 from rfl, nI_leI (by omega) (by omega)]; omega), nI_clamp (by omega)]
