/-! ===== count, median ===== -/
def ocB (g : Nat → Int32) : Nat → Nat → Bool
  | 0, _ => false
  | k + 1, q => ocB g k q || decide (g (sF k 6) = nI q)
def cnB (p : Nat → Bool) : Nat → Nat
  | 0 => 0
  | n + 1 => cnB p n + (if p n = true then 1 else 0)
def plU (s : Nat → Int32) : Nat → Nat
  | 0 => 0
  | k + 1 => plU s k + (if s (85 + 29 * k + 13) = -1 then 0 else 1)
theorem cn_same {p p' : Nat → Bool} : ∀ N, (∀ q, q < N → p' q = p q) → cnB p' N = cnB p N := by
  intro N
  induction N with
  | zero => intro _; rfl
  | succ N ih =>
    intro h
    unfold cnB
    rw [ih (fun q hq => h q (by omega)), h N (by omega)]
theorem cn_one {p p' : Nat → Bool} {q0 : Nat} (h0 : p q0 = false) (h1 : p' q0 = true) : ∀ N, q0 < N → (∀ q, q < N → q ≠ q0 → p' q = p q) → cnB p' N = cnB p N + 1 := by
  intro N
  induction N with
  | zero => intro h _; omega
  | succ N ih =>
    intro h hq
    unfold cnB
    by_cases e : q0 = N
    · subst e
      rw [cn_same (p := p) (p' := p') q0 (fun q hq' => hq q (by omega) (by omega)), h0, h1, if_pos rfl, if_neg (by decide)]
    · rw [ih (by omega) (fun q h1 h2 => hq q (by omega) h2), hq N (by omega) (fun z => e z.symm)]
      omega
theorem oc_ex {g : Nat → Int32} {q : Nat} : ∀ k, ocB g k q = true → ∃ n, n < k ∧ g (sF n 6) = nI q := by
  intro k
  induction k with
  | zero => intro h; exact absurd h (by unfold ocB; decide)
  | succ k ih =>
    intro h
    unfold ocB at h
    rcases Bool.or_eq_true_iff.mp h with h | h
    · obtain ⟨n, hn, e⟩ := ih h
      exact ⟨n, by omega, e⟩
    · exact ⟨k, by omega, of_decide_eq_true h⟩
theorem oc_of {g : Nat → Int32} {q n : Nat} (e : g (sF n 6) = nI q) : ∀ k, n < k → ocB g k q = true := by
  intro k
  induction k with
  | zero => intro h; omega
  | succ k ih =>
    intro h
    unfold ocB
    by_cases d : n = k
    · subst d
      rw [e, decide_eq_true rfl, Bool.or_true]
    · rw [ih (by omega), Bool.true_or]
theorem oc_U {B : Nat} {g s : Nat → Int32} (h : SimS B g s) : ∀ k, k ≤ cS s → cnB (ocB g k) 12 = plU s k := by
  intro k
  induction k with
  | zero => intro _; rfl
  | succ k ih =>
    intro hk
    have hp := h.2.2.2.1 k (by omega)
    unfold plU
    rw [← ih (by omega)]
    by_cases c : s (85 + 29 * k + 13) = -1
    · rw [if_pos c]
      have c' := (pl_no hp).mpr c
      refine cn_same (p := ocB g k) (p' := ocB g (k + 1)) 12 (fun q hq => ?_)
      show (ocB g k q || decide (g (sF k 6) = nI q)) = ocB g k q
      rw [show g (sF k 6) = -1 from c', decide_eq_false (fun e => by
        have := congrArg Int32.toInt e
        rw [nI_toInt (by omega), show (-1 : Int32).toInt = -1 by decide] at this
        omega), Bool.or_false]
    · rw [if_neg c]
      rcases hp with ⟨e1, e2⟩ | ⟨p, hp, e1, e2⟩
      · exact absurd e2 c
      · refine cn_one (p := ocB g k) (p' := ocB g (k + 1)) (q0 := p) ?_ ?_ 12 hp (fun q hq hne => ?_)
        · cases hb : ocB g k p with
          | false => rfl
          | true =>
            exfalso
            obtain ⟨n, hn, e⟩ := oc_ex k hb
            have e' := (pl_iff (h.2.2.2.1 n (by omega)) hp).mp e
            exact c (h.2.2.2.2.2.2.2.2.1 k n (by omega) hn (e2.trans e'.symm))
        · exact oc_of e1 (k + 1) (by omega)
        · show (ocB g k q || decide (g (sF k 6) = nI q)) = ocB g k q
          rw [show g (sF k 6) = nI p from e1, decide_eq_false (fun e => hne (nI_ij (by omega) (by omega) e).symm), Bool.or_false]
abbrev bO (g : Nat → Int32) (k q : Nat) : Nat := if ocB g k q = true then 1 else 0
theorem sn_oc {B : Nat} {g s : Nat → Int32} (h : SimS B g s) {q : Nat} (hq : q < 12) : sp_X4_sensorIn g (nI q) = -1 ↔ ¬ ocB g (cS s) q = true := by
  have c7 := simS_c h
  have eI : sp_X4_sensorIn g (nI q) = sp_X8_inside s (nI (10 * (q / 3) + q % 3)) := in_lp h.1.2.1 (simS_RI h).2.1 h.2.2.2.1 hq 7 0 (by omega)
  constructor
  · intro e hb
    obtain ⟨n, hn, en⟩ := oc_ex _ hb
    rw [eI] at e
    exact in_no (simS_RI h).2.1.1 c7 7 0 rfl e n (Nat.zero_le _) hn ((pl_iff (h.2.2.2.1 n hn) hq).mp en)
  · intro hb
    apply Classical.byContradiction
    intro e
    obtain ⟨n, hn, -, en⟩ := in_so h hq 7 0 (by omega) (Nat.zero_le _) e
    exact hb (oc_of en _ hn)
theorem tk_bO {B : Nat} {g s : Nat → Int32} (h : SimS B g s) {c : Nat} (hc : c < 4) : sp_X4_takenSlots g (nI c) = nI (bO g (cS s) (c * 3 + 0) + bO g (cS s) (c * 3 + 1) + bO g (cS s) (c * 3 + 2)) := by
  have e : ∀ i, nI c * 3 + nI i = nI (c * 3 + i) := fun i => by rw [show (3 : Int32) = nI 3 from rfl, pk_mul, nI_add]
  unfold sp_X4_takenSlots
  rw [show nI c * 3 + 0 = nI (c * 3 + 0) from e 0, show nI c * 3 + 1 = nI (c * 3 + 1) from e 1, show nI c * 3 + 2 = nI (c * 3 + 2) from e 2]
  have s0 := sn_oc h (q := c * 3 + 0) (by omega)
  have s1 := sn_oc h (q := c * 3 + 1) (by omega)
  have s2 := sn_oc h (q := c * 3 + 2) (by omega)
  unfold bO
  by_cases a0 : ocB g (cS s) (c * 3 + 0) = true
  · rw [if_neg (fun z => s0.mp z a0), if_pos a0]
    by_cases a1 : ocB g (cS s) (c * 3 + 1) = true
    · rw [if_neg (fun z => s1.mp z a1), if_pos a1]
      by_cases a2 : ocB g (cS s) (c * 3 + 2) = true
      · rw [if_neg (fun z => s2.mp z a2), if_pos a2]
        first | done | rfl
      · rw [if_pos (s2.mpr a2), if_neg a2]
        first | done | rfl
    · rw [if_pos (s1.mpr a1), if_neg a1]
      by_cases a2 : ocB g (cS s) (c * 3 + 2) = true
      · rw [if_neg (fun z => s2.mp z a2), if_pos a2]
        first | done | rfl
      · rw [if_pos (s2.mpr a2), if_neg a2]
        first | done | rfl
  · rw [if_pos (s0.mpr a0), if_neg a0]
    by_cases a1 : ocB g (cS s) (c * 3 + 1) = true
    · rw [if_neg (fun z => s1.mp z a1), if_pos a1]
      by_cases a2 : ocB g (cS s) (c * 3 + 2) = true
      · rw [if_neg (fun z => s2.mp z a2), if_pos a2]
        first | done | rfl
      · rw [if_pos (s2.mpr a2), if_neg a2]
        first | done | rfl
    · rw [if_pos (s1.mpr a1), if_neg a1]
      by_cases a2 : ocB g (cS s) (c * 3 + 2) = true
      · rw [if_neg (fun z => s2.mp z a2), if_pos a2]
        first | done | rfl
      · rw [if_pos (s2.mpr a2), if_neg a2]
        first | done | rfl
theorem pg_eq {B : Nat} {g s : Nat → Int32} (h : SimS B g s) : sp_X4_pluggedSensors g = nI (plU s (cS s)) := by
  have t0 : sp_X4_takenSlots g (0 : Int32) = nI (bO g (cS s) 0 + bO g (cS s) 1 + bO g (cS s) 2) := tk_bO h (c := 0) (by omega)
  have t1 : sp_X4_takenSlots g (1 : Int32) = nI (bO g (cS s) 3 + bO g (cS s) 4 + bO g (cS s) 5) := tk_bO h (c := 1) (by omega)
  have t2 : sp_X4_takenSlots g (2 : Int32) = nI (bO g (cS s) 6 + bO g (cS s) 7 + bO g (cS s) 8) := tk_bO h (c := 2) (by omega)
  have t3 : sp_X4_takenSlots g (3 : Int32) = nI (bO g (cS s) 9 + bO g (cS s) 10 + bO g (cS s) 11) := tk_bO h (c := 3) (by omega)
  unfold sp_X4_pluggedSensors
  rw [t0, t1, t2, t3, show (0 : Int32) = nI 0 from rfl, nI_add, nI_add, nI_add, nI_add, ← oc_U h _ (Nat.le_refl _)]
  congr 1
  have e : cnB (ocB g (cS s)) 12 = 0 + bO g (cS s) 0 + bO g (cS s) 1 + bO g (cS s) 2 + bO g (cS s) 3 + bO g (cS s) 4 + bO g (cS s) 5 + bO g (cS s) 6 + bO g (cS s) 7 + bO g (cS s) 8 + bO g (cS s) 9 + bO g (cS s) 10 + bO g (cS s) 11 := rfl
  rw [e]
  omega
def cuR (s : Nat → Int32) (cnt : Nat) : Nat → Nat → Nat → Nat
  | 0, _, z => z
  | f + 1, k, z => if cnt ≤ k then z else cuR s cnt f (k + 1) (z + (if s (85 + 29 * k + 13) = -1 then 0 else 1))
theorem cuR_U {s : Nat → Int32} {cnt : Nat} (hc : cnt < 8) : ∀ f k, k + f = 7 → k ≤ cnt → cnt < 7 → cuR s cnt f k (plU s k) = plU s cnt := by
  intro f
  induction f with
  | zero => intro k h1 h2 h3; omega
  | succ f ih =>
    intro k h1 h2 h3
    unfold cuR
    by_cases c : cnt ≤ k
    · rw [if_pos c, show k = cnt by omega]
    · rw [if_neg c]
      exact ih (k + 1) (by omega) (by omega) h3
theorem ct_lp {M : Nat → Nat → Int32} {g : Nat → Int32} {a : Int32} {B : Nat} (h : SimS B g (M 8)) : ∀ f k (z : Nat) (v w : Int32), k + f = 7 → k ≤ cS (M 8) → lp_X8_count_10 M a (f + 1) (nI z) v w k = lp_X8_count_10 M a 1 (nI (cuR (M 8) (cS (M 8)) f k z)) (lp_X4_alarmsOn_4 g f v k) (lp_X4_allReadings_4 g f w k) (cS (M 8)) := by
  have c7 := simS_c h
  have e1 : g 1 = nI (cS (M 8)) := h.1.2.1.trans (simS_RI h).2.1.1
  have hle : nI (M 8 1).toNatClampNeg ≤ nI (cS (M 8)) := Int32.le_iff_toInt_le.mpr (Int.le_refl _)
  intro f
  induction f with
  | zero => intro k z v w h1 h2; omega
  | succ f ih =>
    intro k z v w h1 h2
    by_cases c : cS (M 8) ≤ k
    · have ek : k = cS (M 8) := by omega
      have ea : lp_X4_alarmsOn_4 g (f + 1) v k = v := by
        unfold lp_X4_alarmsOn_4
        rw [if_pos (by rw [e1, nI_leI (by omega) (by omega)]; exact c)]
      have er : lp_X4_allReadings_4 g (f + 1) w k = w := by
        unfold lp_X4_allReadings_4
        rw [if_pos (by rw [e1, nI_leI (by omega) (by omega)]; exact c)]
      have ec : cuR (M 8) (cS (M 8)) (f + 1) k z = z := by
        unfold cuR
        rw [if_pos c]
      rw [ea, er, ec, ek]
      conv => lhs; unfold lp_X8_count_10
      conv => rhs; unfold lp_X8_count_10
      rw [if_pos hle, if_pos hle]
    · have d : ¬ nI (M 8 1).toNatClampNeg ≤ nI k := by
        show ¬ nI (cS (M 8)) ≤ nI k
        rw [nI_leI (by omega) (by omega)]; exact c
      have ea : lp_X4_alarmsOn_4 g (f + 1) v k = lp_X4_alarmsOn_4 g f (v + M 8 (85 + 29 * k + 17)) (k + 1) := by
        conv => lhs; unfold lp_X4_alarmsOn_4
        rw [if_neg (by rw [e1, nI_leI (by omega) (by omega)]; exact c), if_neg (by rw [show (6 : Int32) = nI 6 from rfl, nI_leI (by omega) (by omega)]; omega), show g (sF k 10) = M 8 (85 + 29 * k + 17) from (simS_N h (by omega)).2.2.2.1 3 (by omega)]
      have er : lp_X4_allReadings_4 g (f + 1) w k = lp_X4_allReadings_4 g f (w + M 8 (85 + 29 * k + 18)) (k + 1) := by
        conv => lhs; unfold lp_X4_allReadings_4
        rw [if_neg (by rw [e1, nI_leI (by omega) (by omega)]; exact c), if_neg (by rw [show (6 : Int32) = nI 6 from rfl, nI_leI (by omega) (by omega)]; omega), show g (sF k 11) = M 8 (85 + 29 * k + 18) from (simS_N h (by omega)).2.2.2.1 4 (by omega)]
      have ec : cuR (M 8) (cS (M 8)) (f + 1) k z = cuR (M 8) (cS (M 8)) f (k + 1) (z + (if M 8 (85 + 29 * k + 13) = -1 then 0 else 1)) := by
        conv => lhs; unfold cuR
        rw [if_neg c]
      rw [ea, er, ec]
      conv => lhs; unfold lp_X8_count_10
      rw [if_neg d]
      by_cases y : M 8 (85 + 29 * k + 13) = -1
      · rw [if_pos y, if_pos y, show nI z + 0 = nI (z + 0) from nI_add z 0]
        exact ih (k + 1) _ _ _ (by omega) (by omega)
      · rw [if_neg y, if_neg y, nI_1]
        exact ih (k + 1) _ _ _ (by omega) (by omega)
theorem c26 (a : Int32) : (∃ i, i < 27 ∧ a = nI i) ∨ ¬ ((0 : Int32) ≤ a ∧ a ≤ 26) := by
  by_cases c : (0 : Int32) ≤ a ∧ a ≤ 26
  · exact Or.inl (b_in 26 rfl (by omega) c)
  · exact Or.inr c
theorem eq_count {B : Nat} {M : Nat → Nat → Int32} (h : SimS B (M 0) (M 8)) (h6 : M 6 0 = M 7 0) (h7 : M 6 3 = M 7 1) (a : Int32) : sp_X8_count M a = sp_X7_count M a := by
  have c7 := simS_c h
  have hI := simS_RI h
  have hle : nI (M 8 1).toNatClampNeg ≤ nI (cS (M 8)) := Int32.le_iff_toInt_le.mpr (Int.le_refl _)
  have e : sp_X8_count M a = lp_X8_count_10 M a 1 (sp_X4_pluggedSensors (M 0)) (sp_X4_alarmsOn (M 0)) (sp_X4_allReadings (M 0)) (cS (M 8)) := by
    unfold sp_X8_count
    rw [show (0 : Int32) = nI 0 from rfl, ct_lp h 7 0 0 _ _ rfl (Nat.zero_le _), show cuR (M 8) (cS (M 8)) 7 0 0 = plU (M 8) (cS (M 8)) from cuR_U (s := M 8) (by omega) 7 0 rfl (Nat.zero_le _) c7, ← pg_eq h]
    rfl
  rw [e]
  generalize hu : sp_X4_pluggedSensors (M 0) = u
  generalize hv : sp_X4_alarmsOn (M 0) = v
  generalize hw : sp_X4_allReadings (M 0) = w
  unfold lp_X8_count_10
  rw [if_pos hle]
  unfold sp_X7_count
  rcases c26 a with ⟨i, hi, rfl⟩ | c
  · have hcase : i = 0 ∨ i = 1 ∨ i = 2 ∨ i = 3 ∨ i = 4 ∨ i = 5 ∨ i = 6 ∨ i = 7 ∨ i = 8 ∨ i = 9 ∨ i = 10 ∨ i = 11 ∨ i = 12 ∨ i = 13 ∨ i = 14 ∨ i = 15 ∨ i = 16 ∨ i = 17 ∨ i = 18 ∨ i = 19 ∨ i = 20 ∨ i = 21 ∨ i = 22 ∨ i = 23 ∨ i = 24 ∨ i = 25 ∨ i = 26 := by omega
    rcases hcase with rfl | rfl | rfl | rfl | rfl | rfl | rfl | rfl | rfl | rfl | rfl | rfl | rfl | rfl | rfl | rfl | rfl | rfl | rfl | rfl | rfl | rfl | rfl | rfl | rfl | rfl | rfl
    · rw [if_pos (show (nI 0 = 0) by decide)]
      rw [if_neg (show ¬ ((20 : Int64) ≤ (nI 0).toInt64 ∧ (nI 0).toInt64 ≤ (26 : Int64)) by decide), if_neg (show ¬ ((10 : Int64) ≤ (nI 0).toInt64 ∧ (nI 0).toInt64 ≤ (12 : Int64)) by decide), if_pos (show (nI 0 = 0) by decide)]
      rw [h.1.1]; exact ni_eq hI.1
    · rw [if_neg (show ¬ (nI 1 = 0) by decide), if_pos (show (nI 1 = 1) by decide)]
      rw [if_neg (show ¬ ((20 : Int64) ≤ (nI 1).toInt64 ∧ (nI 1).toInt64 ≤ (26 : Int64)) by decide), if_neg (show ¬ ((10 : Int64) ≤ (nI 1).toInt64 ∧ (nI 1).toInt64 ≤ (12 : Int64)) by decide), if_neg (show ¬ (nI 1 = 0) by decide), if_pos (show (nI 1 = 1) by decide)]
      rw [h.1.2.1]; exact ni_eq hI.2.1
    · rw [if_neg (show ¬ (nI 2 = 0) by decide), if_neg (show ¬ (nI 2 = 1) by decide), if_pos (show (nI 2 = 2) by decide)]
      rw [if_neg (show ¬ ((20 : Int64) ≤ (nI 2).toInt64 ∧ (nI 2).toInt64 ≤ (26 : Int64)) by decide), if_neg (show ¬ ((10 : Int64) ≤ (nI 2).toInt64 ∧ (nI 2).toInt64 ≤ (12 : Int64)) by decide), if_neg (show ¬ (nI 2 = 0) by decide), if_neg (show ¬ (nI 2 = 1) by decide), if_pos (show (nI 2 = 2) by decide)]
      exact hu.symm
    · rw [if_neg (show ¬ (nI 3 = 0) by decide), if_neg (show ¬ (nI 3 = 1) by decide), if_neg (show ¬ (nI 3 = 2) by decide), if_pos (show (nI 3 = 3) by decide)]
      rw [if_neg (show ¬ ((20 : Int64) ≤ (nI 3).toInt64 ∧ (nI 3).toInt64 ≤ (26 : Int64)) by decide), if_neg (show ¬ ((10 : Int64) ≤ (nI 3).toInt64 ∧ (nI 3).toInt64 ≤ (12 : Int64)) by decide), if_neg (show ¬ (nI 3 = 0) by decide), if_neg (show ¬ (nI 3 = 1) by decide), if_neg (show ¬ (nI 3 = 2) by decide), if_pos (show (nI 3 = 3) by decide)]
      exact hv.symm
    · rw [if_neg (show ¬ (nI 4 = 0) by decide), if_neg (show ¬ (nI 4 = 1) by decide), if_neg (show ¬ (nI 4 = 2) by decide), if_neg (show ¬ (nI 4 = 3) by decide), if_pos (show (nI 4 = 4) by decide)]
      rw [if_neg (show ¬ ((20 : Int64) ≤ (nI 4).toInt64 ∧ (nI 4).toInt64 ≤ (26 : Int64)) by decide), if_neg (show ¬ ((10 : Int64) ≤ (nI 4).toInt64 ∧ (nI 4).toInt64 ≤ (12 : Int64)) by decide), if_neg (show ¬ (nI 4 = 0) by decide), if_neg (show ¬ (nI 4 = 1) by decide), if_neg (show ¬ (nI 4 = 2) by decide), if_neg (show ¬ (nI 4 = 3) by decide), if_pos (show (nI 4 = 4) by decide)]
      exact hw.symm
    · rw [if_neg (show ¬ (nI 5 = 0) by decide), if_neg (show ¬ (nI 5 = 1) by decide), if_neg (show ¬ (nI 5 = 2) by decide), if_neg (show ¬ (nI 5 = 3) by decide), if_neg (show ¬ (nI 5 = 4) by decide), if_pos (show (nI 5 = 5) by decide)]
      rw [if_neg (show ¬ ((20 : Int64) ≤ (nI 5).toInt64 ∧ (nI 5).toInt64 ≤ (26 : Int64)) by decide), if_neg (show ¬ ((10 : Int64) ≤ (nI 5).toInt64 ∧ (nI 5).toInt64 ≤ (12 : Int64)) by decide), if_neg (show ¬ (nI 5 = 0) by decide), if_neg (show ¬ (nI 5 = 1) by decide), if_neg (show ¬ (nI 5 = 2) by decide), if_neg (show ¬ (nI 5 = 3) by decide), if_neg (show ¬ (nI 5 = 4) by decide), if_pos (show (nI 5 = 5) by decide)]
      have hp := pl_no h.2.1
      by_cases z : M 0 2 = -1
      · rw [if_pos z, if_pos (hp.mp z)]
      · rw [if_neg z, if_neg (fun q => z (hp.mpr q)), told h.2.1 z]
    · rw [if_neg (show ¬ (nI 6 = 0) by decide), if_neg (show ¬ (nI 6 = 1) by decide), if_neg (show ¬ (nI 6 = 2) by decide), if_neg (show ¬ (nI 6 = 3) by decide), if_neg (show ¬ (nI 6 = 4) by decide), if_neg (show ¬ (nI 6 = 5) by decide), if_pos (show (nI 6 = 6) by decide)]
      rw [if_neg (show ¬ ((20 : Int64) ≤ (nI 6).toInt64 ∧ (nI 6).toInt64 ≤ (26 : Int64)) by decide), if_neg (show ¬ ((10 : Int64) ≤ (nI 6).toInt64 ∧ (nI 6).toInt64 ≤ (12 : Int64)) by decide), if_neg (show ¬ (nI 6 = 0) by decide), if_neg (show ¬ (nI 6 = 1) by decide), if_neg (show ¬ (nI 6 = 2) by decide), if_neg (show ¬ (nI 6 = 3) by decide), if_neg (show ¬ (nI 6 = 4) by decide), if_neg (show ¬ (nI 6 = 5) by decide), if_pos (show (nI 6 = 6) by decide)]
      exact h6.symm
    · rw [if_neg (show ¬ (nI 7 = 0) by decide), if_neg (show ¬ (nI 7 = 1) by decide), if_neg (show ¬ (nI 7 = 2) by decide), if_neg (show ¬ (nI 7 = 3) by decide), if_neg (show ¬ (nI 7 = 4) by decide), if_neg (show ¬ (nI 7 = 5) by decide), if_neg (show ¬ (nI 7 = 6) by decide), if_pos (show (nI 7 = 7) by decide)]
      rw [if_neg (show ¬ ((20 : Int64) ≤ (nI 7).toInt64 ∧ (nI 7).toInt64 ≤ (26 : Int64)) by decide), if_neg (show ¬ ((10 : Int64) ≤ (nI 7).toInt64 ∧ (nI 7).toInt64 ≤ (12 : Int64)) by decide), if_neg (show ¬ (nI 7 = 0) by decide), if_neg (show ¬ (nI 7 = 1) by decide), if_neg (show ¬ (nI 7 = 2) by decide), if_neg (show ¬ (nI 7 = 3) by decide), if_neg (show ¬ (nI 7 = 4) by decide), if_neg (show ¬ (nI 7 = 5) by decide), if_neg (show ¬ (nI 7 = 6) by decide), if_pos (show (nI 7 = 7) by decide)]
      exact h7.symm
    · rw [if_neg (show ¬ (nI 8 = 0) by decide), if_neg (show ¬ (nI 8 = 1) by decide), if_neg (show ¬ (nI 8 = 2) by decide), if_neg (show ¬ (nI 8 = 3) by decide), if_neg (show ¬ (nI 8 = 4) by decide), if_neg (show ¬ (nI 8 = 5) by decide), if_neg (show ¬ (nI 8 = 6) by decide), if_neg (show ¬ (nI 8 = 7) by decide), if_pos (show (nI 8 = 8) by decide), if_neg (show ¬ ((20 : Int32) ≤ nI 8 ∧ nI 8 ≤ (26 : Int32)) by decide)]
      rw [if_neg (show ¬ ((20 : Int64) ≤ (nI 8).toInt64 ∧ (nI 8).toInt64 ≤ (26 : Int64)) by decide), if_neg (show ¬ ((10 : Int64) ≤ (nI 8).toInt64 ∧ (nI 8).toInt64 ≤ (12 : Int64)) by decide), if_neg (show ¬ (nI 8 = 0) by decide), if_neg (show ¬ (nI 8 = 1) by decide), if_neg (show ¬ (nI 8 = 2) by decide), if_neg (show ¬ (nI 8 = 3) by decide), if_neg (show ¬ (nI 8 = 4) by decide), if_neg (show ¬ (nI 8 = 5) by decide), if_neg (show ¬ (nI 8 = 6) by decide), if_neg (show ¬ (nI 8 = 7) by decide)]
    · rw [if_neg (show ¬ (nI 9 = 0) by decide), if_neg (show ¬ (nI 9 = 1) by decide), if_neg (show ¬ (nI 9 = 2) by decide), if_neg (show ¬ (nI 9 = 3) by decide), if_neg (show ¬ (nI 9 = 4) by decide), if_neg (show ¬ (nI 9 = 5) by decide), if_neg (show ¬ (nI 9 = 6) by decide), if_neg (show ¬ (nI 9 = 7) by decide), if_neg (show ¬ (nI 9 = 8) by decide), if_pos (show (nI 9 = 9) by decide), if_neg (show ¬ ((20 : Int32) ≤ nI 9 ∧ nI 9 ≤ (26 : Int32)) by decide)]
      rw [if_neg (show ¬ ((20 : Int64) ≤ (nI 9).toInt64 ∧ (nI 9).toInt64 ≤ (26 : Int64)) by decide), if_neg (show ¬ ((10 : Int64) ≤ (nI 9).toInt64 ∧ (nI 9).toInt64 ≤ (12 : Int64)) by decide), if_neg (show ¬ (nI 9 = 0) by decide), if_neg (show ¬ (nI 9 = 1) by decide), if_neg (show ¬ (nI 9 = 2) by decide), if_neg (show ¬ (nI 9 = 3) by decide), if_neg (show ¬ (nI 9 = 4) by decide), if_neg (show ¬ (nI 9 = 5) by decide), if_neg (show ¬ (nI 9 = 6) by decide), if_neg (show ¬ (nI 9 = 7) by decide)]
    · rw [if_neg (show ¬ (nI 10 = 0) by decide), if_neg (show ¬ (nI 10 = 1) by decide), if_neg (show ¬ (nI 10 = 2) by decide), if_neg (show ¬ (nI 10 = 3) by decide), if_neg (show ¬ (nI 10 = 4) by decide), if_neg (show ¬ (nI 10 = 5) by decide), if_neg (show ¬ (nI 10 = 6) by decide), if_neg (show ¬ (nI 10 = 7) by decide), if_neg (show ¬ (nI 10 = 8) by decide), if_neg (show ¬ (nI 10 = 9) by decide), if_pos (show (nI 10 = 10) by decide)]
      rw [if_neg (show ¬ ((20 : Int64) ≤ (nI 10).toInt64 ∧ (nI 10).toInt64 ≤ (26 : Int64)) by decide), if_pos (show ((10 : Int64) ≤ (nI 10).toInt64 ∧ (nI 10).toInt64 ≤ (12 : Int64)) by decide)]
      rw [show nI 10 - 10 = nI 0 from rfl, tabI h]
      by_cases z : 0 ≤ nI 0 ∧ nI 0 ≤ M 8 0 - 1
      · rw [if_pos z, if_pos z, nI_clamp (by omega)]
        show _ = M 0 (tN 0)
        rw [show M 0 (tN 0) = M 8 (10 + 25 * 0) from sT_N h.1 (by omega)]
        exact ni_eq (hI.2.2.1 0 (by omega))
      · rw [if_neg z, if_neg z]
        rfl
    · rw [if_neg (show ¬ (nI 11 = 0) by decide), if_neg (show ¬ (nI 11 = 1) by decide), if_neg (show ¬ (nI 11 = 2) by decide), if_neg (show ¬ (nI 11 = 3) by decide), if_neg (show ¬ (nI 11 = 4) by decide), if_neg (show ¬ (nI 11 = 5) by decide), if_neg (show ¬ (nI 11 = 6) by decide), if_neg (show ¬ (nI 11 = 7) by decide), if_neg (show ¬ (nI 11 = 8) by decide), if_neg (show ¬ (nI 11 = 9) by decide), if_neg (show ¬ (nI 11 = 10) by decide), if_pos (show (nI 11 = 11) by decide)]
      rw [if_neg (show ¬ ((20 : Int64) ≤ (nI 11).toInt64 ∧ (nI 11).toInt64 ≤ (26 : Int64)) by decide), if_pos (show ((10 : Int64) ≤ (nI 11).toInt64 ∧ (nI 11).toInt64 ≤ (12 : Int64)) by decide)]
      rw [show nI 11 - 10 = nI 1 from rfl, tabI h]
      by_cases z : 0 ≤ nI 1 ∧ nI 1 ≤ M 8 0 - 1
      · rw [if_pos z, if_pos z, nI_clamp (by omega)]
        show _ = M 0 (tN 1)
        rw [show M 0 (tN 1) = M 8 (10 + 25 * 1) from sT_N h.1 (by omega)]
        exact ni_eq (hI.2.2.1 1 (by omega))
      · rw [if_neg z, if_neg z]
        rfl
    · rw [if_neg (show ¬ (nI 12 = 0) by decide), if_neg (show ¬ (nI 12 = 1) by decide), if_neg (show ¬ (nI 12 = 2) by decide), if_neg (show ¬ (nI 12 = 3) by decide), if_neg (show ¬ (nI 12 = 4) by decide), if_neg (show ¬ (nI 12 = 5) by decide), if_neg (show ¬ (nI 12 = 6) by decide), if_neg (show ¬ (nI 12 = 7) by decide), if_neg (show ¬ (nI 12 = 8) by decide), if_neg (show ¬ (nI 12 = 9) by decide), if_neg (show ¬ (nI 12 = 10) by decide), if_neg (show ¬ (nI 12 = 11) by decide), if_pos (show (nI 12 = 12) by decide)]
      rw [if_neg (show ¬ ((20 : Int64) ≤ (nI 12).toInt64 ∧ (nI 12).toInt64 ≤ (26 : Int64)) by decide), if_pos (show ((10 : Int64) ≤ (nI 12).toInt64 ∧ (nI 12).toInt64 ≤ (12 : Int64)) by decide)]
      rw [show nI 12 - 10 = nI 2 from rfl, tabI h]
      by_cases z : 0 ≤ nI 2 ∧ nI 2 ≤ M 8 0 - 1
      · rw [if_pos z, if_pos z, nI_clamp (by omega)]
        show _ = M 0 (tN 2)
        rw [show M 0 (tN 2) = M 8 (10 + 25 * 2) from sT_N h.1 (by omega)]
        exact ni_eq (hI.2.2.1 2 (by omega))
      · rw [if_neg z, if_neg z]
        rfl
    · rw [if_neg (show ¬ (nI 13 = 0) by decide), if_neg (show ¬ (nI 13 = 1) by decide), if_neg (show ¬ (nI 13 = 2) by decide), if_neg (show ¬ (nI 13 = 3) by decide), if_neg (show ¬ (nI 13 = 4) by decide), if_neg (show ¬ (nI 13 = 5) by decide), if_neg (show ¬ (nI 13 = 6) by decide), if_neg (show ¬ (nI 13 = 7) by decide), if_neg (show ¬ (nI 13 = 8) by decide), if_neg (show ¬ (nI 13 = 9) by decide), if_neg (show ¬ (nI 13 = 10) by decide), if_neg (show ¬ (nI 13 = 11) by decide), if_neg (show ¬ (nI 13 = 12) by decide), if_neg (show ¬ ((20 : Int32) ≤ nI 13 ∧ nI 13 ≤ (26 : Int32)) by decide)]
      rw [if_neg (show ¬ ((20 : Int64) ≤ (nI 13).toInt64 ∧ (nI 13).toInt64 ≤ (26 : Int64)) by decide), if_neg (show ¬ ((10 : Int64) ≤ (nI 13).toInt64 ∧ (nI 13).toInt64 ≤ (12 : Int64)) by decide), if_neg (show ¬ (nI 13 = 0) by decide), if_neg (show ¬ (nI 13 = 1) by decide), if_neg (show ¬ (nI 13 = 2) by decide), if_neg (show ¬ (nI 13 = 3) by decide), if_neg (show ¬ (nI 13 = 4) by decide), if_neg (show ¬ (nI 13 = 5) by decide), if_neg (show ¬ (nI 13 = 6) by decide), if_neg (show ¬ (nI 13 = 7) by decide)]
    · rw [if_neg (show ¬ (nI 14 = 0) by decide), if_neg (show ¬ (nI 14 = 1) by decide), if_neg (show ¬ (nI 14 = 2) by decide), if_neg (show ¬ (nI 14 = 3) by decide), if_neg (show ¬ (nI 14 = 4) by decide), if_neg (show ¬ (nI 14 = 5) by decide), if_neg (show ¬ (nI 14 = 6) by decide), if_neg (show ¬ (nI 14 = 7) by decide), if_neg (show ¬ (nI 14 = 8) by decide), if_neg (show ¬ (nI 14 = 9) by decide), if_neg (show ¬ (nI 14 = 10) by decide), if_neg (show ¬ (nI 14 = 11) by decide), if_neg (show ¬ (nI 14 = 12) by decide), if_neg (show ¬ ((20 : Int32) ≤ nI 14 ∧ nI 14 ≤ (26 : Int32)) by decide)]
      rw [if_neg (show ¬ ((20 : Int64) ≤ (nI 14).toInt64 ∧ (nI 14).toInt64 ≤ (26 : Int64)) by decide), if_neg (show ¬ ((10 : Int64) ≤ (nI 14).toInt64 ∧ (nI 14).toInt64 ≤ (12 : Int64)) by decide), if_neg (show ¬ (nI 14 = 0) by decide), if_neg (show ¬ (nI 14 = 1) by decide), if_neg (show ¬ (nI 14 = 2) by decide), if_neg (show ¬ (nI 14 = 3) by decide), if_neg (show ¬ (nI 14 = 4) by decide), if_neg (show ¬ (nI 14 = 5) by decide), if_neg (show ¬ (nI 14 = 6) by decide), if_neg (show ¬ (nI 14 = 7) by decide)]
    · rw [if_neg (show ¬ (nI 15 = 0) by decide), if_neg (show ¬ (nI 15 = 1) by decide), if_neg (show ¬ (nI 15 = 2) by decide), if_neg (show ¬ (nI 15 = 3) by decide), if_neg (show ¬ (nI 15 = 4) by decide), if_neg (show ¬ (nI 15 = 5) by decide), if_neg (show ¬ (nI 15 = 6) by decide), if_neg (show ¬ (nI 15 = 7) by decide), if_neg (show ¬ (nI 15 = 8) by decide), if_neg (show ¬ (nI 15 = 9) by decide), if_neg (show ¬ (nI 15 = 10) by decide), if_neg (show ¬ (nI 15 = 11) by decide), if_neg (show ¬ (nI 15 = 12) by decide), if_neg (show ¬ ((20 : Int32) ≤ nI 15 ∧ nI 15 ≤ (26 : Int32)) by decide)]
      rw [if_neg (show ¬ ((20 : Int64) ≤ (nI 15).toInt64 ∧ (nI 15).toInt64 ≤ (26 : Int64)) by decide), if_neg (show ¬ ((10 : Int64) ≤ (nI 15).toInt64 ∧ (nI 15).toInt64 ≤ (12 : Int64)) by decide), if_neg (show ¬ (nI 15 = 0) by decide), if_neg (show ¬ (nI 15 = 1) by decide), if_neg (show ¬ (nI 15 = 2) by decide), if_neg (show ¬ (nI 15 = 3) by decide), if_neg (show ¬ (nI 15 = 4) by decide), if_neg (show ¬ (nI 15 = 5) by decide), if_neg (show ¬ (nI 15 = 6) by decide), if_neg (show ¬ (nI 15 = 7) by decide)]
    · rw [if_neg (show ¬ (nI 16 = 0) by decide), if_neg (show ¬ (nI 16 = 1) by decide), if_neg (show ¬ (nI 16 = 2) by decide), if_neg (show ¬ (nI 16 = 3) by decide), if_neg (show ¬ (nI 16 = 4) by decide), if_neg (show ¬ (nI 16 = 5) by decide), if_neg (show ¬ (nI 16 = 6) by decide), if_neg (show ¬ (nI 16 = 7) by decide), if_neg (show ¬ (nI 16 = 8) by decide), if_neg (show ¬ (nI 16 = 9) by decide), if_neg (show ¬ (nI 16 = 10) by decide), if_neg (show ¬ (nI 16 = 11) by decide), if_neg (show ¬ (nI 16 = 12) by decide), if_neg (show ¬ ((20 : Int32) ≤ nI 16 ∧ nI 16 ≤ (26 : Int32)) by decide)]
      rw [if_neg (show ¬ ((20 : Int64) ≤ (nI 16).toInt64 ∧ (nI 16).toInt64 ≤ (26 : Int64)) by decide), if_neg (show ¬ ((10 : Int64) ≤ (nI 16).toInt64 ∧ (nI 16).toInt64 ≤ (12 : Int64)) by decide), if_neg (show ¬ (nI 16 = 0) by decide), if_neg (show ¬ (nI 16 = 1) by decide), if_neg (show ¬ (nI 16 = 2) by decide), if_neg (show ¬ (nI 16 = 3) by decide), if_neg (show ¬ (nI 16 = 4) by decide), if_neg (show ¬ (nI 16 = 5) by decide), if_neg (show ¬ (nI 16 = 6) by decide), if_neg (show ¬ (nI 16 = 7) by decide)]
    · rw [if_neg (show ¬ (nI 17 = 0) by decide), if_neg (show ¬ (nI 17 = 1) by decide), if_neg (show ¬ (nI 17 = 2) by decide), if_neg (show ¬ (nI 17 = 3) by decide), if_neg (show ¬ (nI 17 = 4) by decide), if_neg (show ¬ (nI 17 = 5) by decide), if_neg (show ¬ (nI 17 = 6) by decide), if_neg (show ¬ (nI 17 = 7) by decide), if_neg (show ¬ (nI 17 = 8) by decide), if_neg (show ¬ (nI 17 = 9) by decide), if_neg (show ¬ (nI 17 = 10) by decide), if_neg (show ¬ (nI 17 = 11) by decide), if_neg (show ¬ (nI 17 = 12) by decide), if_neg (show ¬ ((20 : Int32) ≤ nI 17 ∧ nI 17 ≤ (26 : Int32)) by decide)]
      rw [if_neg (show ¬ ((20 : Int64) ≤ (nI 17).toInt64 ∧ (nI 17).toInt64 ≤ (26 : Int64)) by decide), if_neg (show ¬ ((10 : Int64) ≤ (nI 17).toInt64 ∧ (nI 17).toInt64 ≤ (12 : Int64)) by decide), if_neg (show ¬ (nI 17 = 0) by decide), if_neg (show ¬ (nI 17 = 1) by decide), if_neg (show ¬ (nI 17 = 2) by decide), if_neg (show ¬ (nI 17 = 3) by decide), if_neg (show ¬ (nI 17 = 4) by decide), if_neg (show ¬ (nI 17 = 5) by decide), if_neg (show ¬ (nI 17 = 6) by decide), if_neg (show ¬ (nI 17 = 7) by decide)]
    · rw [if_neg (show ¬ (nI 18 = 0) by decide), if_neg (show ¬ (nI 18 = 1) by decide), if_neg (show ¬ (nI 18 = 2) by decide), if_neg (show ¬ (nI 18 = 3) by decide), if_neg (show ¬ (nI 18 = 4) by decide), if_neg (show ¬ (nI 18 = 5) by decide), if_neg (show ¬ (nI 18 = 6) by decide), if_neg (show ¬ (nI 18 = 7) by decide), if_neg (show ¬ (nI 18 = 8) by decide), if_neg (show ¬ (nI 18 = 9) by decide), if_neg (show ¬ (nI 18 = 10) by decide), if_neg (show ¬ (nI 18 = 11) by decide), if_neg (show ¬ (nI 18 = 12) by decide), if_neg (show ¬ ((20 : Int32) ≤ nI 18 ∧ nI 18 ≤ (26 : Int32)) by decide)]
      rw [if_neg (show ¬ ((20 : Int64) ≤ (nI 18).toInt64 ∧ (nI 18).toInt64 ≤ (26 : Int64)) by decide), if_neg (show ¬ ((10 : Int64) ≤ (nI 18).toInt64 ∧ (nI 18).toInt64 ≤ (12 : Int64)) by decide), if_neg (show ¬ (nI 18 = 0) by decide), if_neg (show ¬ (nI 18 = 1) by decide), if_neg (show ¬ (nI 18 = 2) by decide), if_neg (show ¬ (nI 18 = 3) by decide), if_neg (show ¬ (nI 18 = 4) by decide), if_neg (show ¬ (nI 18 = 5) by decide), if_neg (show ¬ (nI 18 = 6) by decide), if_neg (show ¬ (nI 18 = 7) by decide)]
    · rw [if_neg (show ¬ (nI 19 = 0) by decide), if_neg (show ¬ (nI 19 = 1) by decide), if_neg (show ¬ (nI 19 = 2) by decide), if_neg (show ¬ (nI 19 = 3) by decide), if_neg (show ¬ (nI 19 = 4) by decide), if_neg (show ¬ (nI 19 = 5) by decide), if_neg (show ¬ (nI 19 = 6) by decide), if_neg (show ¬ (nI 19 = 7) by decide), if_neg (show ¬ (nI 19 = 8) by decide), if_neg (show ¬ (nI 19 = 9) by decide), if_neg (show ¬ (nI 19 = 10) by decide), if_neg (show ¬ (nI 19 = 11) by decide), if_neg (show ¬ (nI 19 = 12) by decide), if_neg (show ¬ ((20 : Int32) ≤ nI 19 ∧ nI 19 ≤ (26 : Int32)) by decide)]
      rw [if_neg (show ¬ ((20 : Int64) ≤ (nI 19).toInt64 ∧ (nI 19).toInt64 ≤ (26 : Int64)) by decide), if_neg (show ¬ ((10 : Int64) ≤ (nI 19).toInt64 ∧ (nI 19).toInt64 ≤ (12 : Int64)) by decide), if_neg (show ¬ (nI 19 = 0) by decide), if_neg (show ¬ (nI 19 = 1) by decide), if_neg (show ¬ (nI 19 = 2) by decide), if_neg (show ¬ (nI 19 = 3) by decide), if_neg (show ¬ (nI 19 = 4) by decide), if_neg (show ¬ (nI 19 = 5) by decide), if_neg (show ¬ (nI 19 = 6) by decide), if_neg (show ¬ (nI 19 = 7) by decide)]
    · rw [if_neg (show ¬ (nI 20 = 0) by decide), if_neg (show ¬ (nI 20 = 1) by decide), if_neg (show ¬ (nI 20 = 2) by decide), if_neg (show ¬ (nI 20 = 3) by decide), if_neg (show ¬ (nI 20 = 4) by decide), if_neg (show ¬ (nI 20 = 5) by decide), if_neg (show ¬ (nI 20 = 6) by decide), if_neg (show ¬ (nI 20 = 7) by decide), if_neg (show ¬ (nI 20 = 8) by decide), if_neg (show ¬ (nI 20 = 9) by decide), if_neg (show ¬ (nI 20 = 10) by decide), if_neg (show ¬ (nI 20 = 11) by decide), if_neg (show ¬ (nI 20 = 12) by decide), if_pos (show ((20 : Int32) ≤ nI 20 ∧ nI 20 ≤ (26 : Int32)) by decide)]
      rw [if_pos (show ((20 : Int64) ≤ (nI 20).toInt64 ∧ (nI 20).toInt64 ≤ (26 : Int64)) by decide)]
      rw [show nI 20 - 20 = nI 0 from rfl, set_j (by omega), nI_clamp (by omega), h.1.2.2.1 0 (by omega)]
    · rw [if_neg (show ¬ (nI 21 = 0) by decide), if_neg (show ¬ (nI 21 = 1) by decide), if_neg (show ¬ (nI 21 = 2) by decide), if_neg (show ¬ (nI 21 = 3) by decide), if_neg (show ¬ (nI 21 = 4) by decide), if_neg (show ¬ (nI 21 = 5) by decide), if_neg (show ¬ (nI 21 = 6) by decide), if_neg (show ¬ (nI 21 = 7) by decide), if_neg (show ¬ (nI 21 = 8) by decide), if_neg (show ¬ (nI 21 = 9) by decide), if_neg (show ¬ (nI 21 = 10) by decide), if_neg (show ¬ (nI 21 = 11) by decide), if_neg (show ¬ (nI 21 = 12) by decide), if_pos (show ((20 : Int32) ≤ nI 21 ∧ nI 21 ≤ (26 : Int32)) by decide)]
      rw [if_pos (show ((20 : Int64) ≤ (nI 21).toInt64 ∧ (nI 21).toInt64 ≤ (26 : Int64)) by decide)]
      rw [show nI 21 - 20 = nI 1 from rfl, set_j (by omega), nI_clamp (by omega), h.1.2.2.1 1 (by omega)]
    · rw [if_neg (show ¬ (nI 22 = 0) by decide), if_neg (show ¬ (nI 22 = 1) by decide), if_neg (show ¬ (nI 22 = 2) by decide), if_neg (show ¬ (nI 22 = 3) by decide), if_neg (show ¬ (nI 22 = 4) by decide), if_neg (show ¬ (nI 22 = 5) by decide), if_neg (show ¬ (nI 22 = 6) by decide), if_neg (show ¬ (nI 22 = 7) by decide), if_neg (show ¬ (nI 22 = 8) by decide), if_neg (show ¬ (nI 22 = 9) by decide), if_neg (show ¬ (nI 22 = 10) by decide), if_neg (show ¬ (nI 22 = 11) by decide), if_neg (show ¬ (nI 22 = 12) by decide), if_pos (show ((20 : Int32) ≤ nI 22 ∧ nI 22 ≤ (26 : Int32)) by decide)]
      rw [if_pos (show ((20 : Int64) ≤ (nI 22).toInt64 ∧ (nI 22).toInt64 ≤ (26 : Int64)) by decide)]
      rw [show nI 22 - 20 = nI 2 from rfl, set_j (by omega), nI_clamp (by omega), h.1.2.2.1 2 (by omega)]
    · rw [if_neg (show ¬ (nI 23 = 0) by decide), if_neg (show ¬ (nI 23 = 1) by decide), if_neg (show ¬ (nI 23 = 2) by decide), if_neg (show ¬ (nI 23 = 3) by decide), if_neg (show ¬ (nI 23 = 4) by decide), if_neg (show ¬ (nI 23 = 5) by decide), if_neg (show ¬ (nI 23 = 6) by decide), if_neg (show ¬ (nI 23 = 7) by decide), if_neg (show ¬ (nI 23 = 8) by decide), if_neg (show ¬ (nI 23 = 9) by decide), if_neg (show ¬ (nI 23 = 10) by decide), if_neg (show ¬ (nI 23 = 11) by decide), if_neg (show ¬ (nI 23 = 12) by decide), if_pos (show ((20 : Int32) ≤ nI 23 ∧ nI 23 ≤ (26 : Int32)) by decide)]
      rw [if_pos (show ((20 : Int64) ≤ (nI 23).toInt64 ∧ (nI 23).toInt64 ≤ (26 : Int64)) by decide)]
      rw [show nI 23 - 20 = nI 3 from rfl, set_j (by omega), nI_clamp (by omega), h.1.2.2.1 3 (by omega)]
    · rw [if_neg (show ¬ (nI 24 = 0) by decide), if_neg (show ¬ (nI 24 = 1) by decide), if_neg (show ¬ (nI 24 = 2) by decide), if_neg (show ¬ (nI 24 = 3) by decide), if_neg (show ¬ (nI 24 = 4) by decide), if_neg (show ¬ (nI 24 = 5) by decide), if_neg (show ¬ (nI 24 = 6) by decide), if_neg (show ¬ (nI 24 = 7) by decide), if_neg (show ¬ (nI 24 = 8) by decide), if_neg (show ¬ (nI 24 = 9) by decide), if_neg (show ¬ (nI 24 = 10) by decide), if_neg (show ¬ (nI 24 = 11) by decide), if_neg (show ¬ (nI 24 = 12) by decide), if_pos (show ((20 : Int32) ≤ nI 24 ∧ nI 24 ≤ (26 : Int32)) by decide)]
      rw [if_pos (show ((20 : Int64) ≤ (nI 24).toInt64 ∧ (nI 24).toInt64 ≤ (26 : Int64)) by decide)]
      rw [show nI 24 - 20 = nI 4 from rfl, set_j (by omega), nI_clamp (by omega), h.1.2.2.1 4 (by omega)]
    · rw [if_neg (show ¬ (nI 25 = 0) by decide), if_neg (show ¬ (nI 25 = 1) by decide), if_neg (show ¬ (nI 25 = 2) by decide), if_neg (show ¬ (nI 25 = 3) by decide), if_neg (show ¬ (nI 25 = 4) by decide), if_neg (show ¬ (nI 25 = 5) by decide), if_neg (show ¬ (nI 25 = 6) by decide), if_neg (show ¬ (nI 25 = 7) by decide), if_neg (show ¬ (nI 25 = 8) by decide), if_neg (show ¬ (nI 25 = 9) by decide), if_neg (show ¬ (nI 25 = 10) by decide), if_neg (show ¬ (nI 25 = 11) by decide), if_neg (show ¬ (nI 25 = 12) by decide), if_pos (show ((20 : Int32) ≤ nI 25 ∧ nI 25 ≤ (26 : Int32)) by decide)]
      rw [if_pos (show ((20 : Int64) ≤ (nI 25).toInt64 ∧ (nI 25).toInt64 ≤ (26 : Int64)) by decide)]
      rw [show nI 25 - 20 = nI 5 from rfl, set_j (by omega), nI_clamp (by omega), h.1.2.2.1 5 (by omega)]
    · rw [if_neg (show ¬ (nI 26 = 0) by decide), if_neg (show ¬ (nI 26 = 1) by decide), if_neg (show ¬ (nI 26 = 2) by decide), if_neg (show ¬ (nI 26 = 3) by decide), if_neg (show ¬ (nI 26 = 4) by decide), if_neg (show ¬ (nI 26 = 5) by decide), if_neg (show ¬ (nI 26 = 6) by decide), if_neg (show ¬ (nI 26 = 7) by decide), if_neg (show ¬ (nI 26 = 8) by decide), if_neg (show ¬ (nI 26 = 9) by decide), if_neg (show ¬ (nI 26 = 10) by decide), if_neg (show ¬ (nI 26 = 11) by decide), if_neg (show ¬ (nI 26 = 12) by decide), if_pos (show ((20 : Int32) ≤ nI 26 ∧ nI 26 ≤ (26 : Int32)) by decide)]
      rw [if_pos (show ((20 : Int64) ≤ (nI 26).toInt64 ∧ (nI 26).toInt64 ≤ (26 : Int64)) by decide)]
      rw [show nI 26 - 20 = nI 6 from rfl, set_j (by omega), nI_clamp (by omega), h.1.2.2.1 6 (by omega)]
  · have no : ∀ k, k < 27 → ¬ a = nI k := fun k hk q => c (by
      rw [q]
      exact ⟨nI_pos' (by omega), by rw [show (26 : Int32) = nI 26 from rfl, nI_leI (by omega) (by omega)]; omega⟩)
    have n0 : ¬ a = (0 : Int32) := no 0 (by omega)
    have n1 : ¬ a = (1 : Int32) := no 1 (by omega)
    have n2 : ¬ a = (2 : Int32) := no 2 (by omega)
    have n3 : ¬ a = (3 : Int32) := no 3 (by omega)
    have n4 : ¬ a = (4 : Int32) := no 4 (by omega)
    have n5 : ¬ a = (5 : Int32) := no 5 (by omega)
    have n6 : ¬ a = (6 : Int32) := no 6 (by omega)
    have n7 : ¬ a = (7 : Int32) := no 7 (by omega)
    have n8 : ¬ a = (8 : Int32) := no 8 (by omega)
    have n9 : ¬ a = (9 : Int32) := no 9 (by omega)
    have n10 : ¬ a = (10 : Int32) := no 10 (by omega)
    have n11 : ¬ a = (11 : Int32) := no 11 (by omega)
    have n12 : ¬ a = (12 : Int32) := no 12 (by omega)
    have r20 : ¬ ((20 : Int32) ≤ a ∧ a ≤ 26) := fun q => c ⟨Int32.le_trans (by decide) q.1, q.2⟩
    have r10 : ¬ ((10 : Int32) ≤ a ∧ a ≤ 12) := fun q => c ⟨Int32.le_trans (by decide) q.1, Int32.le_trans q.2 (by decide)⟩
    have i20 : ¬ ((20 : Int64) ≤ a.toInt64 ∧ a.toInt64 ≤ 26) := fun q => r20 ((i2g (by decide) (by decide)).mp q)
    have i10 : ¬ ((10 : Int64) ≤ a.toInt64 ∧ a.toInt64 ≤ 12) := fun q => r10 ((i2g (by decide) (by decide)).mp q)
    rw [if_neg i20, if_neg i10, if_neg n0, if_neg n0, if_neg n1, if_neg n1, if_neg n2, if_neg n2, if_neg n3, if_neg n3, if_neg n4, if_neg n4, if_neg n5, if_neg n5, if_neg n6, if_neg n6, if_neg n7, if_neg n7, if_neg n8, if_neg n9, if_neg n10, if_neg n11, if_neg n12, if_neg r20]
theorem st_count {B : Nat} {μ : Mu} (h : Inv B μ) (a : Int32) : Stq B (sp_X7_count μ.1 a, μ) (fun m => (sp_X8_count m.1 a, m)) := by
  obtain ⟨st, hst, b1, b2, -⟩ := h.2.1
  obtain ⟨⟨L, hL, t1, t2⟩, -, -⟩ := h.2.2
  exact stq_rd h (by rw [eq_count h.1 (b1.trans b2.symm) (t1.trans t2.symm)])
