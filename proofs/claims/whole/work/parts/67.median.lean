/-! ===== median ===== -/
def nxR (x : Mu) (a : Int32) (f mn k : Nat) (y : Mu) : Int32 × Mu := if (nI mn : Int32) ≤ nI (k + 1) then (if (nI mn : Int32) = 0 then (-2000000004, y) else (y.1 14 ((mn - 1) / 2), y)) else lp_X8_median_71 x a f mn (k + 1) (y.1 8 (85 + 29 * a.toNatClampNeg + ((20 + ((x.1 8 (85 + 29 * a.toNatClampNeg + 19)).toNatClampNeg) - 1) - (k + 1)))) (k + 1) y
/-- memories but for the sorted rows -/
def MdC (m m' : Mu) : Prop := m'.2 = m.2 ∧ (∀ c, c ≠ 6 → m'.1 c = m.1 c) ∧ ∀ k, k < 68 → m'.1 6 k = m.1 6 k
def MdR (y y' : Mu) : Prop := y'.2 = y.2 ∧ ∀ c, c ≠ 14 → y'.1 c = y.1 c
theorem mdC_t {a b c : Mu} (h1 : MdC a b) (h2 : MdC b c) : MdC a c := ⟨h2.1.trans h1.1, fun k hk => (h2.2.1 k hk).trans (h1.2.1 k hk), fun k hk => (h2.2.2 k hk).trans (h1.2.2 k hk)⟩
theorem mdR_t {a b c : Mu} (h1 : MdR a b) (h2 : MdR b c) : MdR a c := ⟨h2.1.trans h1.1, fun k hk => (h2.2 k hk).trans (h1.2 k hk)⟩
theorem mdC_p {m : Mu} {j : Nat} {v : Int32} : MdC m (pM m 6 (68 + j) v) := ⟨rfl, fun c hc => row_n _ hc, fun k hk => row_k _ (by omega)⟩
theorem mdR_p {y : Mu} {j : Nat} {v : Int32} : MdR y (pM y 14 j v) := ⟨rfl, fun c hc => row_n _ hc⟩
theorem md_in {x μ0 : Mu} {a v : Int32} {mn k k0 : Nat} (hk : k < 9) : ∀ (j : Nat) (m y : Mu), j ≤ k → (∀ i, i < j → m.1 6 (68 + i) = y.1 14 i) → (∀ i, j < i → i ≤ k → m.1 6 (68 + i) = y.1 14 i) → ∃ m' y', lp_X7_insertSorted_2 μ0 v k0 (j + 1) j m = m' ∧ (∀ i, i < k + 1 → m'.1 6 (68 + i) = y'.1 14 i) ∧ MdC m m' ∧ MdR y y' ∧ ∀ fr, 100 + j ≤ 11 * k + fr → ∃ f', 100 ≤ 11 * k + f' + 1 ∧ lp_X8_median_71 x a fr mn k v j y = nxR x a f' mn k y' := by
  intro j
  have wr : ∀ (j : Nat) (m y : Mu), j ≤ k → (∀ i, i < j → m.1 6 (68 + i) = y.1 14 i) → (∀ i, j < i → i ≤ k → m.1 6 (68 + i) = y.1 14 i) → ∀ i, i < k + 1 → (pM m 6 (68 + j) v).1 6 (68 + i) = (pM y 14 j v).1 14 i := by
    intro j m y hj h1 h2 i hi
    by_cases e : i = j
    · subst e; rw [row_at, row_at]
    · rw [row_k _ (by omega), row_k _ e]
      by_cases l : i < j
      · exact h1 i l
      · exact h2 i (by omega) (by omega)
  have nx : ∀ (f j : Nat) (y : Mu), (if (nI mn : Int32) ≤ nI (k + 1) then (if (nI mn : Int32) = 0 then ((-2000000004), pM y 14 j v) else ((pM y 14 j v).1 14 ((mn - 1) / 2), pM y 14 j v)) else lp_X8_median_71 x a f mn (k + 1) (y.1 8 (85 + 29 * a.toNatClampNeg + ((20 + ((x.1 8 (85 + 29 * a.toNatClampNeg + 19)).toNatClampNeg) - 1) - (k + 1)))) (k + 1) (pM y 14 j v)) = nxR x a f mn k (pM y 14 j v) := by
    intro f j y
    unfold nxR
    rw [row_n _ (show (8 : Nat) ≠ 14 by omega)]
  induction j with
  | zero =>
    intro m y hj h1 h2
    refine ⟨pM m 6 (68 + 0) v, pM y 14 0 v, ?_, wr 0 m y hj h1 h2, mdC_p, mdR_p, fun fr hf => ?_⟩
    · unfold lp_X7_insertSorted_2
      rw [if_pos (show nI 0 ≤ 0 by decide), if_neg (show ¬ nI 0 < 0 by decide), if_neg (show ¬ (9 : Int32) ≤ nI 0 by decide)]
    · obtain ⟨f, rfl⟩ : ∃ f, fr = f + 1 := ⟨fr - 1, by omega⟩
      refine ⟨f, by omega, ?_⟩
      unfold lp_X8_median_71
      rw [if_pos (show nI 0 ≤ 0 by decide)]
      exact nx f 0 y
  | succ j ih =>
    intro m y hj h1 h2
    have e9 : ¬ (9 : Int32) ≤ nI (j + 1) := by rw [show (9 : Int32) = nI 9 from rfl, nI_leI (by omega) (by omega)]; omega
    have ea : m.1 6 (68 + j) = y.1 14 j := h1 j (by omega)
    by_cases c : y.1 14 j ≤ v
    · refine ⟨pM m 6 (68 + (j + 1)) v, pM y 14 (j + 1) v, ?_, wr (j + 1) m y hj h1 h2, mdC_p, mdR_p, fun fr hf => ?_⟩
      · unfold lp_X7_insertSorted_2
        rw [if_neg (nI_nle (by omega) (by omega)), if_neg e9, Nat.add_sub_cancel, ea, if_pos c, if_neg (nI_pos (by omega)), if_neg e9]
      · obtain ⟨f, rfl⟩ : ∃ f, fr = f + 1 := ⟨fr - 1, by omega⟩
        refine ⟨f, by omega, ?_⟩
        unfold lp_X8_median_71
        rw [if_neg (nI_nle (by omega) (by omega)), Nat.add_sub_cancel, if_pos c]
        exact nx f (j + 1) y
    · obtain ⟨m', y', q1, q2, q3, q4, q5⟩ := ih (pM m 6 (68 + (j + 1)) (m.1 6 (68 + j))) (pM y 14 (j + 1) (y.1 14 j)) (by omega) (fun i hi => by rw [row_k _ (by omega), row_k _ (by omega)]; exact h1 i (by omega)) (fun i h3 h4 => by
        by_cases e : i = j + 1
        · subst e; rw [row_at, row_at]; exact ea
        · rw [row_k _ (by omega), row_k _ e]; exact h2 i (by omega) h4)
      refine ⟨m', y', ?_, q2, mdC_t mdC_p q3, mdR_t mdR_p q4, fun fr hf => ?_⟩
      · rw [← q1]
        conv => lhs; unfold lp_X7_insertSorted_2
        rw [if_neg (nI_nle (by omega) (by omega)), if_neg e9, Nat.add_sub_cancel, if_neg (by rw [ea]; exact c)]
      · obtain ⟨f, rfl⟩ : ∃ f, fr = f + 1 := ⟨fr - 1, by omega⟩
        obtain ⟨f', z1, z2⟩ := q5 f (by omega)
        refine ⟨f', z1, ?_⟩
        rw [← z2]
        conv => lhs; unfold lp_X8_median_71
        rw [if_neg (nI_nle (by omega) (by omega)), Nat.add_sub_cancel, if_neg c]
theorem md_out {x μ : Mu} {a : Int32} {n mn kp : Nat} (hna : a.toNatClampNeg = n) (hmn : mn < 10) (hkp : kp < 10) (hmk : mn ≤ kp) (ek : (x.1 8 (85 + 29 * n + 19)).toNatClampNeg = kp) (em : mnI (sp_X4_setting (μ.1 0) (6 : Int32)) (sp_X3_keptReadings (μ.1 0) n) = nI mn) {g s : Nat → Int32} (hl : ∀ i, i < kp → g (sF n (19 + i)) = s (85 + 29 * n + (19 + kp - i))) : ∀ (d k f fr : Nat) (m y : Mu), k + d = mn → 0 < d → k + f = 10 → 100 + k ≤ 11 * k + fr → (∀ i, i < k → m.1 6 (68 + i) = y.1 14 i) → m.1 0 = g → y.1 8 = s → ∃ r m' y', lp_X7_median_43 μ a n f k m = (r, m') ∧ lp_X8_median_71 x a fr mn k (y.1 8 (85 + 29 * n + ((20 + kp - 1) - k))) k y = (r, y') ∧ MdC m m' ∧ MdR y y' := by
  intro d
  induction d with
  | zero => intro k f fr m y _ h; omega
  | succ d ih =>
    intro k f fr m y h1 _ h3 h4 h5 h6 h7
    obtain ⟨f, rfl⟩ : ∃ f0, f = f0 + 1 := ⟨f - 1, by omega⟩
    have cls : lp_X7_median_43 μ a n (f + 1) k m = lp_X7_median_43 μ a n f (k + 1) (sp_X7_insertSorted m (g (sF n (19 + k))) k) := by
      conv => lhs; unfold lp_X7_median_43
      rw [em, if_neg (by rw [nI_leI (by omega) (by omega)]; omega), if_neg (by rw [show (9 : Int32) = nI 9 from rfl, nI_leI (by omega) (by omega)]; omega), h6, rdg_j (by omega)]
    have ev : y.1 8 (85 + 29 * n + ((20 + kp - 1) - k)) = g (sF n (19 + k)) := by
      rw [h7, hl k (by omega), show 20 + kp - 1 - k = 19 + kp - k by omega]
    obtain ⟨m', y', q1, q2, q3, q4, q5⟩ := md_in (x := x) (μ0 := m) (a := a) (v := g (sF n (19 + k))) (mn := mn) (k := k) (k0 := k) (by omega) k m y (Nat.le_refl _) h5 (fun i h1 h2 => by omega)
    obtain ⟨f', z1, z2⟩ := q5 fr h4
    have q1' : sp_X7_insertSorted m (g (sF n (19 + k))) k = m' := q1
    rw [cls, ev, q1', z2]
    unfold nxR
    rw [hna, ek]
    by_cases c : mn ≤ k + 1
    · have e : k + 1 = mn := by omega
      have eh : (nI mn - 1) / 2 = nI ((mn - 1) / 2) := by rw [show nI mn - 1 = nI (mn - 1) from pk_sub (b := 1) (by omega), nI_hf (by omega)]
      rw [if_pos (by rw [nI_leI (by omega) (by omega)]; exact c), if_neg (nI_ne0 (by omega) (by omega))]
      refine ⟨y'.1 14 ((mn - 1) / 2), m', y', ?_, rfl, q3, q4⟩
      obtain ⟨f, rfl⟩ : ∃ f0, f = f0 + 1 := ⟨f - 1, by omega⟩
      unfold lp_X7_median_43
      rw [em, if_pos (by rw [nI_leI (by omega) (by omega)]; omega), eh, if_neg (nI_pos (by omega)), if_neg (by rw [show (9 : Int32) = nI 9 from rfl, nI_leI (by omega) (by omega)]; omega), nI_clamp (by omega), q2 _ (by omega)]
    · rw [if_neg (by rw [nI_leI (by omega) (by omega)]; exact c)]
      obtain ⟨r, m2, y2, w1, w2, w3, w4⟩ := ih (k + 1) f f' m' y' (by omega) (by omega) (by omega) (by omega) q2 ((q3.2.1 0 (by omega)).trans h6) ((q4.2 8 (by omega)).trans h7)
      exact ⟨r, m2, y2, w1, w2, mdC_t q3 w3, mdR_t q4 w4⟩
theorem st_median {B : Nat} {μ : Mu} (h : Inv B μ) (hB : B < 2 ^ 30) (a : Int32) : Stq B (sp_X7_median μ a) (fun m => sp_X8_median m a) := by
  have hS := h.1
  unfold sp_X7_median
  rw [senI hS]
  by_cases c : 0 ≤ a ∧ a ≤ μ.1 8 1 - 1
  · rw [if_pos c]
    obtain ⟨-, hn⟩ := sen_lt hS c
    have c7 := simS_c hS
    generalize hna : a.toNatClampNeg = n at *
    obtain ⟨r, r1, r2, r3, r4, r5⟩ := kept_eq hS hB hn
    have h10 := hS.2.2.2.2.2.2.2.1
    obtain ⟨M, hM, eM⟩ : ∃ M, M < 10 ∧ μ.1 8 8 = nI M := ⟨_, h10.2, h10.1⟩
    have eset : sp_X4_setting (μ.1 0) (6 : Int32) = nI M := by
      rw [show sp_X4_setting (μ.1 0) (6 : Int32) = μ.1 0 (3 + 6) from set_j (j := 6) (by omega), hS.1.2.2.1 6 (by omega), eM]
    have em : mnI (sp_X4_setting (μ.1 0) (6 : Int32)) (sp_X3_keptReadings (μ.1 0) n) = nI (min M (min r 9)) := by
      rw [eset, r4]
      unfold mnI
      by_cases d : min r 9 < M
      · rw [if_pos ((nI_ltI (by omega) (by omega)).mpr d), show min M (min r 9) = min r 9 by omega]
      · rw [if_neg (fun q => d ((nI_ltI (by omega) (by omega)).mp q)), show min M (min r 9) = M by omega]
    show Stq B (if mnI (sp_X4_setting (μ.1 0) (6 : Int32)) (sp_X3_keptReadings (μ.1 0) n) = 0 then _ else _) _
    generalize hmn : min M (min r 9) = mn at *
    generalize hkp : min r 9 = kp at *
    have ref : ∀ x : Mu, x.1 8 = μ.1 8 → sp_X8_median x a = if mn = 0 then (-2000000004, x) else lp_X8_median_71 x a 100 mn 0 (x.1 8 (85 + 29 * n + ((20 + kp - 1) - 0))) 0 x := by
      intro x ex
      unfold sp_X8_median
      rw [ex, if_pos c, hna, r3, eM, nI_clamp (show kp < 2 ^ 31 by omega), nI_clamp (show M < 2 ^ 31 by omega)]
      by_cases d : kp ≤ M
      · rw [if_pos ((nI_leI (by omega) (by omega)).mpr d)]
        have e : mn = kp := by omega
        subst e
        by_cases z : mn = 0
        · subst z; rw [if_pos (show nI 0 ≤ 0 by decide), if_pos (show nI 0 = 0 from rfl), if_pos rfl]
        · rw [if_neg (nI_nle (by omega) (by omega)), if_neg z]
      · rw [if_neg (fun q => d ((nI_leI (by omega) (by omega)).mp q))]
        have e : mn = M := by omega
        subst e
        by_cases z : mn = 0
        · subst z; rw [if_pos (show nI 0 ≤ 0 by decide), if_pos (show nI 0 = 0 from rfl), if_pos rfl]
        · rw [if_neg (nI_nle (by omega) (by omega)), if_neg z]
    rw [em]
    by_cases z : mn = 0
    · subst z
      rw [if_pos (show nI 0 = 0 from rfl)]
      exact stq_rd h ((ref μ rfl).trans (if_pos rfl))
    · rw [if_neg (nI_ne0 (by omega) (by omega))]
      have run := fun (x : Mu) => md_out (x := x) (μ := μ) (a := a) (n := n) (mn := mn) (kp := kp) (g := μ.1 0) (s := μ.1 8) hna (by omega) (by omega) (by omega)
      -- the sorted rows of the class come out the same, whatever the reference runs on
      obtain ⟨r0, m0, y0, w1, -, w3, -⟩ := run μ (by rw [r3, nI_clamp (by omega)]) em r5 mn 0 10 100 μ μ (by omega) (by omega) rfl (by omega) (fun i hi => by omega) rfl rfl
      have m8 : m0.1 8 = μ.1 8 := w3.2.1 8 (by omega)
      obtain ⟨r1', m1, y1, v1, v2, v3, v4⟩ := run m0 (by rw [m8, r3, nI_clamp (by omega)]) em r5 mn 0 10 100 μ m0 (by omega) (by omega) rfl (by omega) (fun i hi => by omega) rfl m8
      have e01 : (r0, m0) = (r1', m1) := w1.symm.trans v1
      have er := congrArg Prod.fst e01
      rw [w1]
      have em0 : sp_X8_median m0 a = (r1', y1) := by
        rw [ref m0 m8, if_neg z]
        exact v2
      show r0 = (sp_X8_median m0 a).1 ∧ Inv B (sp_X8_median m0 a).2
      rw [em0]
      refine ⟨er, ?_⟩
      have f : ∀ c, c ≠ 6 → c ≠ 14 → y1.1 c = μ.1 c := fun c h1 h2 => (v4.2 c h2).trans (w3.2.1 c h1)
      have f6 : ∀ k, k < 68 → y1.1 6 k = μ.1 6 k := fun k hk => by rw [v4.2 6 (by omega)]; exact w3.2.2 k hk
      exact inv_same h (Nat.le_refl _) (by show y1.2.2 = _; rw [v4.1, w3.1]) (fun j hj _ y _ => by show y1.1 j y = _; rw [f j (by omega) (by omega)]) (f6 0 (by omega)) (f6 3 (by omega)) (fun y hy => f6 _ (by omega)) (by show y1.1 7 0 = _; rw [f 7 (by omega) (by omega)]) (by show y1.1 7 1 = _; rw [f 7 (by omega) (by omega)]) (fun y _ => by show y1.1 8 y = _; rw [f 8 (by omega) (by omega)]) (fun y _ => by show y1.1 9 y = _; rw [f 9 (by omega) (by omega)]) (fun y _ => by show y1.1 12 y = _; rw [f 12 (by omega) (by omega)])
  · rw [if_neg c]
    refine stq_rd h ?_
    show sp_X8_median _ a = _
    unfold sp_X8_median
    rw [if_neg c]
