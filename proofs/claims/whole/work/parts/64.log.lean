/-! ===== the log, reading, scanning ===== -/
def lgA (A L H Y w : Int32) : Int32 := if A = 0 then (if w < L then 1 else if w ≤ H then 0 else 1) else (if w < L + Y then 1 else if H - Y < w then 1 else 0)
def lgB (m : Mu) (j n : Nat) (w : Int32) : Mu := pM (pM (pM (pM (pM (pM (pM (pM (pM (pM m j (sF n (19 + 8)) (m.1 j (sF n (19 + 7)))) j (sF n (19 + 7)) (m.1 j (sF n (19 + 6)))) j (sF n (19 + 6)) (m.1 j (sF n (19 + 5)))) j (sF n (19 + 5)) (m.1 j (sF n (19 + 4)))) j (sF n (19 + 4)) (m.1 j (sF n (19 + 3)))) j (sF n (19 + 3)) (m.1 j (sF n (19 + 2)))) j (sF n (19 + 2)) (m.1 j (sF n (19 + 1)))) j (sF n (19 + 1)) (m.1 j (sF n (19 + 0)))) j (sF n (19 + 0)) w) j (sF n 11) ((m.1 j (sF n 11)) + 1)
theorem lgB_n {m : Mu} {j n c : Nat} {w : Int32} (hc : c ≠ j) : (lgB m j n w).1 c = m.1 c := by
  unfold lgB
  iterate 10 rw [row_n _ hc]
theorem lgB_o {m : Mu} {j n y : Nat} {w : Int32} (h1 : y ≠ sF n 11) (h2 : y < sF n 19 ∨ sF n 28 ≤ y) : (lgB m j n w).1 j y = m.1 j y := by
  unfold sF at h1 h2
  unfold lgB sF
  iterate 10 rw [row_k _ (by omega)]
theorem lgB_r {m : Mu} {j n : Nat} {w : Int32} : (lgB m j n w).1 j (sF n 11) = m.1 j (sF n 11) + 1 := row_at _
theorem lgB_0 {m : Mu} {j n : Nat} {w : Int32} : (lgB m j n w).1 j (sF n 19) = w := by
  unfold lgB sF
  rw [row_k _ (by omega)]
  exact row_at _
theorem lgB_i {m : Mu} {j n i : Nat} {w : Int32} (hi : i < 8) : (lgB m j n w).1 j (sF n (20 + i)) = m.1 j (sF n (19 + i)) := by
  unfold lgB sF
  rw [row_k _ (by omega), row_k _ (by omega)]
  rcases (show i = 0 ∨ i = 1 ∨ i = 2 ∨ i = 3 ∨ i = 4 ∨ i = 5 ∨ i = 6 ∨ i = 7 by omega) with rfl | rfl | rfl | rfl | rfl | rfl | rfl | rfl
  · exact row_at _
  · iterate 1 rw [row_k _ (by omega)]
    exact row_at _
  · iterate 2 rw [row_k _ (by omega)]
    exact row_at _
  · iterate 3 rw [row_k _ (by omega)]
    exact row_at _
  · iterate 4 rw [row_k _ (by omega)]
    exact row_at _
  · iterate 5 rw [row_k _ (by omega)]
    exact row_at _
  · iterate 6 rw [row_k _ (by omega)]
    exact row_at _
  · iterate 7 rw [row_k _ (by omega)]
    exact row_at _
theorem lg_eq (m : Mu) (j n : Nat) (w : Int32) (hA : ni 2 (m.1 j (sF n 10))) : sp_X3_log m j n w = pM (lgB m j n w) j (sF n 10) (lgA (m.1 j (sF n 10)) (m.1 j (sF n 7)) (m.1 j (sF n 8)) (m.1 j (sF n 9)) w) ∨ (sp_X3_log m j n w = lgB m j n w ∧ m.1 j (sF n 10) = lgA (m.1 j (sF n 10)) (m.1 j (sF n 7)) (m.1 j (sF n 8)) (m.1 j (sF n 9)) w) := by
  obtain ⟨k, hk, ek⟩ : ∃ k, k < 2 ∧ m.1 j (sF n 10) = nI k := ⟨_, hA.2, hA.1⟩
  unfold sp_X3_log lgA
  rcases (show k = 0 ∨ k = 1 by omega) with rfl | rfl
  · rw [ek, if_pos (show nI 0 = 0 from rfl), if_pos (show nI 0 = 0 from rfl)]
    by_cases a : w < m.1 j (sF n 7)
    · rw [if_pos a, if_pos a]; exact Or.inl rfl
    · rw [if_neg a, if_neg a]
      by_cases b : w ≤ m.1 j (sF n 8)
      · rw [if_pos b, if_pos b, if_neg (show ¬ nI 0 = 1 by decide)]; exact Or.inr ⟨rfl, rfl⟩
      · rw [if_neg b, if_neg b]; exact Or.inl rfl
  · rw [ek, if_neg (show ¬ nI 1 = 0 by decide), if_neg (show ¬ nI 1 = 0 by decide), if_pos (show nI 1 = 1 from rfl)]
    by_cases a : w < m.1 j (sF n 7) + m.1 j (sF n 9)
    · rw [if_pos a, if_pos a]; exact Or.inr ⟨rfl, rfl⟩
    · rw [if_neg a, if_neg a]
      by_cases b : m.1 j (sF n 8) - m.1 j (sF n 9) < w
      · rw [if_pos b, if_pos b]; exact Or.inr ⟨rfl, rfl⟩
      · rw [if_neg b, if_neg b]; exact Or.inl rfl
theorem lg_row (m : Mu) (j n : Nat) (w : Int32) (hA : ni 2 (m.1 j (sF n 10))) : (sp_X3_log m j n w).2 = m.2 ∧ (∀ c, c ≠ j → (sp_X3_log m j n w).1 c = m.1 c) ∧ (sp_X3_log m j n w).1 j (sF n 10) = lgA (m.1 j (sF n 10)) (m.1 j (sF n 7)) (m.1 j (sF n 8)) (m.1 j (sF n 9)) w ∧ (sp_X3_log m j n w).1 j (sF n 11) = m.1 j (sF n 11) + 1 ∧ (sp_X3_log m j n w).1 j (sF n 19) = w ∧ (∀ i, i < 8 → (sp_X3_log m j n w).1 j (sF n (20 + i)) = m.1 j (sF n (19 + i))) ∧ ∀ y, y ≠ sF n 10 → y ≠ sF n 11 → (y < sF n 19 ∨ sF n 28 ≤ y) → (sp_X3_log m j n w).1 j y = m.1 j y := by
  have ne : ∀ {f f' : Nat}, f ≠ f' → sF n f ≠ sF n f' := fun h e => h (by unfold sF at e; omega)
  rcases lg_eq m j n w hA with e | ⟨e, e2⟩
  · rw [e]
    refine ⟨rfl, fun c hc => (row_n _ hc).trans (lgB_n hc), row_at _, ?_, ?_, fun i hi => ?_, fun y h1 h2 h3 => ?_⟩
    · rw [row_k _ (ne (by omega))]; exact lgB_r
    · rw [row_k _ (ne (by omega))]; exact lgB_0
    · rw [row_k _ (ne (by omega))]; exact lgB_i hi
    · rw [row_k _ h1]; exact lgB_o h2 h3
  · rw [e]
    refine ⟨rfl, fun c hc => lgB_n hc, ?_, lgB_r, lgB_0, fun i hi => lgB_i hi, fun y h1 h2 h3 => lgB_o h2 h3⟩
    rw [lgB_o (ne (by omega)) (Or.inl (by unfold sF; omega))]
    exact e2
/-- what reading leaves of the reference's row -/
theorem al_eq (x : Mu) (n : Nat) (w : Int32) : sp_X8_alarms x n w = pM x 8 (85 + 29 * n + 17) (lgA (x.1 8 (85 + 29 * n + 17)) (x.1 8 (85 + 29 * n + 14)) (x.1 8 (85 + 29 * n + 15)) (x.1 8 (85 + 29 * n + 16)) w) := by
  unfold sp_X8_alarms lgA
  by_cases z : x.1 8 (85 + 29 * n + 17) = 0
  · rw [if_pos z, if_pos z]
    by_cases a : w < x.1 8 (85 + 29 * n + 14)
    · rw [if_pos a, if_pos a]
    · rw [if_neg a, if_neg a]
      by_cases b : w ≤ x.1 8 (85 + 29 * n + 15)
      · rw [if_pos b, if_pos b]
      · rw [if_neg b, if_neg b]
  · rw [if_neg z, if_neg z]
    by_cases a : w < x.1 8 (85 + 29 * n + 14) + x.1 8 (85 + 29 * n + 16)
    · rw [if_pos a, if_pos a]
    · rw [if_neg a, if_neg a]
      by_cases b : x.1 8 (85 + 29 * n + 15) - x.1 8 (85 + 29 * n + 16) < w
      · rw [if_pos b, if_pos b]
      · rw [if_neg b, if_neg b]
theorem rd_row (x : Mu) {n r : Nat} (hn : n < 7) (c : 0 ≤ nI n ∧ nI n ≤ x.1 8 1 - 1) (hd : sp_X8_diagnosed (x.1 8) n = 0) (hk : x.1 8 (85 + 29 * n + 19) = nI (min r 9)) : ∃ y, sp_X8_reads x (nI n) = (sp_X8_degrees (x.1 8) n, y) ∧ y.2 = x.2 ∧ (∀ c, c ≠ 8 → y.1 c = x.1 c) ∧ y.1 8 (85 + 29 * n + 17) = lgA (x.1 8 (85 + 29 * n + 17)) (x.1 8 (85 + 29 * n + 14)) (x.1 8 (85 + 29 * n + 15)) (x.1 8 (85 + 29 * n + 16)) (sp_X8_degrees (x.1 8) n) ∧ y.1 8 (85 + 29 * n + 18) = x.1 8 (85 + 29 * n + 18) + 1 ∧ y.1 8 (85 + 29 * n + 19) = nI (min (r + 1) 9) ∧ y.1 8 (85 + 29 * n + (19 + min (r + 1) 9)) = sp_X8_degrees (x.1 8) n ∧ (∀ i, i + 1 < min (r + 1) 9 → y.1 8 (85 + 29 * n + (19 + min (r + 1) 9 - (i + 1))) = x.1 8 (85 + 29 * n + (19 + min r 9 - i))) ∧ ∀ z, (z < 85 + 29 * n + 17 ∨ 85 + 29 * n + 29 ≤ z) → y.1 8 z = x.1 8 z := by
  unfold sp_X8_reads
  rw [if_pos c, nI_clamp (by omega), if_pos hd, hk, nI_clamp (by omega)]
  generalize sp_X8_degrees (x.1 8) n = w
  by_cases q : 9 ≤ r
  · rw [show min r 9 = 9 by omega, show min (r + 1) 9 = 9 by omega, if_pos (show nI 9 = 9 from rfl), al_eq]
    refine ⟨_, rfl, rfl, fun c hc => ?_, ?_, ?_, ?_, ?_, fun i hi => ?_, fun z hz => ?_⟩
    · iterate 13 rw [row_n _ hc]
    · rw [row_at]
      congr 1
      all_goals (iterate 12 rw [row_k _ (by omega)])
    · rw [row_k _ (by omega)]
      exact row_at _
    · rw [row_k _ (by omega), row_k _ (by omega)]
      exact row_at _
    · rw [row_k _ (by omega), row_k _ (by omega), row_k _ (by omega)]
      exact row_at _
    · rcases (show i = 0 ∨ i = 1 ∨ i = 2 ∨ i = 3 ∨ i = 4 ∨ i = 5 ∨ i = 6 ∨ i = 7 by omega) with rfl | rfl | rfl | rfl | rfl | rfl | rfl | rfl
      · iterate 5 rw [row_k _ (by omega)]
        exact row_at _
      · iterate 6 rw [row_k _ (by omega)]
        exact row_at _
      · iterate 7 rw [row_k _ (by omega)]
        exact row_at _
      · iterate 8 rw [row_k _ (by omega)]
        exact row_at _
      · iterate 9 rw [row_k _ (by omega)]
        exact row_at _
      · iterate 10 rw [row_k _ (by omega)]
        exact row_at _
      · iterate 11 rw [row_k _ (by omega)]
        exact row_at _
      · iterate 12 rw [row_k _ (by omega)]
        exact row_at _
    · iterate 13 rw [row_k _ (by omega)]
  · rw [show min r 9 = r by omega, show min (r + 1) 9 = r + 1 by omega, if_neg (show ¬ nI r = 9 from fun e => by have := nI_ij (b := 9) (by omega) (by omega) e; omega), al_eq]
    refine ⟨_, rfl, rfl, fun c hc => ?_, ?_, ?_, ?_, ?_, fun i hi => ?_, fun z hz => ?_⟩
    · iterate 4 rw [row_n _ hc]
    · rw [row_at]
      congr 1
      all_goals (iterate 3 rw [row_k _ (by omega)])
    · rw [row_k _ (by omega)]
      exact row_at _
    · rw [row_k _ (by omega), row_k _ (by omega)]
      exact row_at _
    · rw [row_k _ (by omega), row_k _ (by omega), row_k _ (by omega), show 19 + (r + 1) = 20 + r by omega]
      exact row_at _
    · rw [row_k _ (by omega), row_k _ (by omega), row_k _ (by omega), row_k _ (by omega), show 19 + (r + 1) - (i + 1) = 19 + r - i by omega]
    · iterate 4 rw [row_k _ (by omega)]
theorem reads_0 {B : Nat} {g : Nat → Int32} {x : Mu} (h : SimS B g (x.1 8)) {n : Nat} (hn : n < cS (x.1 8)) : 0 ≤ nI n ∧ nI n ≤ x.1 8 1 - 1 := by
  have c := simS_c h
  have hI := (simS_RI h).2.1
  have c' : (x.1 8 1).toNatClampNeg < 7 := c
  exact (ni_pr hI (by omega)).mp ⟨nI_pos' (by omega), by rw [hI.1]; exact nI_lt hn (by omega)⟩
theorem reads_no {B : Nat} {g : Nat → Int32} {x : Mu} (h : SimS B g (x.1 8)) {n : Nat} (hn : n < cS (x.1 8)) (hd : ¬ sp_X8_diagnosed (x.1 8) n = 0) : sp_X8_reads x (nI n) = (-2000000002, x) := by
  have c := simS_c h
  unfold sp_X8_reads
  rw [if_pos (reads_0 h hn), nI_clamp (by omega), if_neg hd]
/-- reading keeps the relation -/
theorem rd_sim {B j n : Nat} {m x : Mu} (h : SimS B (m.1 j) (x.1 8)) (hB : B < 2 ^ 30) (hn : n < cS (x.1 8)) (hd : sp_X8_diagnosed (x.1 8) n = 0) : ∃ y, sp_X8_reads x (nI n) = (sp_X8_degrees (x.1 8) n, y) ∧ y.2 = x.2 ∧ (∀ c, c ≠ 8 → y.1 c = x.1 c) ∧ SimS (B + 1) ((sp_X3_log m j n (sp_X8_degrees (x.1 8) n)).1 j) (y.1 8) := by
  have c7 := simS_c h
  obtain ⟨r, r1, r2, r3, r4⟩ := (h.2.2.1 n (by omega)).2
  obtain ⟨y, e, e2, e3, y17, y18, y19, y20, yi, yo⟩ := rd_row x (by omega) (reads_0 h hn) hd r3
  refine ⟨y, e, e2, e3, ?_⟩
  have hNN := simS_N h hn
  have hb := h.2.2.2.2.2.2.2.2.2.2 n (by omega)
  have a10 : m.1 j (sF n 10) = x.1 8 (85 + 29 * n + 17) := hNN.2.2.2.1 3 (by omega)
  have a7 : m.1 j (sF n 7) = x.1 8 (85 + 29 * n + 14) := hNN.2.2.2.1 0 (by omega)
  have a8 : m.1 j (sF n 8) = x.1 8 (85 + 29 * n + 15) := hNN.2.2.2.1 1 (by omega)
  have a9 : m.1 j (sF n 9) = x.1 8 (85 + 29 * n + 16) := hNN.2.2.2.1 2 (by omega)
  obtain ⟨l1, l2, l10, l11, l19, li, lo⟩ := lg_row m j n (sp_X8_degrees (x.1 8) n) (by rw [a10]; exact hb.2.2)
  have lgr : ∀ w, lgA (x.1 8 (85 + 29 * n + 17)) (x.1 8 (85 + 29 * n + 14)) (x.1 8 (85 + 29 * n + 15)) (x.1 8 (85 + 29 * n + 16)) w = 0 ∨ lgA (x.1 8 (85 + 29 * n + 17)) (x.1 8 (85 + 29 * n + 14)) (x.1 8 (85 + 29 * n + 15)) (x.1 8 (85 + 29 * n + 16)) w = 1 := by
    intro w
    unfold lgA
    split
    · split
      · exact Or.inr rfl
      · split
        · exact Or.inl rfl
        · exact Or.inr rfl
    · split
      · exact Or.inr rfl
      · split
        · exact Or.inr rfl
        · exact Or.inl rfl
  rw [a10, a7, a8, a9] at l10
  have hR : RGS (y.1 8) := by
    have q := rga_X8_reads x (nI n) (simS_R h)
    rw [e] at q
    exact q
  unfold sF at lo
  have gl : ∀ f, f < 10 → (sp_X3_log m j n (sp_X8_degrees (x.1 8) n)).1 j (85 + 28 * n + f) = m.1 j (85 + 28 * n + f) := fun f hf => lo _ (by omega) (by omega) (by omega)
  have gh : ∀ f, 12 ≤ f → f < 19 → (sp_X3_log m j n (sp_X8_degrees (x.1 8) n)).1 j (85 + 28 * n + f) = m.1 j (85 + 28 * n + f) := fun f h1 hf => lo _ (by omega) (by omega) (by omega)
  have sl : ∀ f, f < 17 → y.1 8 (85 + 29 * n + f) = x.1 8 (85 + 29 * n + f) := fun f hf => yo _ (by omega)
  refine simS_1 h (Nat.le_succ _) hn (fun z hz => lo z (by omega) (by omega) (by omega)) (fun z hz => yo z (by omega)) (fun n' hn' hne => ⟨fun f hf => lo _ (by omega) (by omega) (by omega), fun f hf => yo _ (by omega)⟩) (fun f hf h6 => ?_) ⟨r + 1, by omega, ?_, y19, fun i hi => ?_⟩ ?_ hR (fun n' hn' hne q => ?_) (fun f hf => ?_) ⟨?_, ?_⟩
  · by_cases d : f = 10
    · subst d
      rw [show ph 10 = 17 from rfl, y17]; exact l10
    · by_cases d2 : f = 11
      · subst d2
        rw [show ph 11 = 18 from rfl, y18]
        refine l11.trans ?_
        rw [show m.1 j (sF n 11) = x.1 8 (85 + 29 * n + 18) from hNN.2.2.2.1 4 (by omega)]
      · have p := ph_lt hf
        have p1 : ph f ≠ 17 := fun q => d (ph_ij hf (by omega) (q.trans (show 17 = ph 10 from rfl)))
        have p2 : ph f ≠ 18 := fun q => d2 (ph_ij hf (by omega) (q.trans (show 18 = ph 11 from rfl)))
        rw [sl _ (by omega)]
        refine Eq.trans ?_ ((h.2.2.1 n (by omega)).1 f hf h6)
        by_cases d3 : f < 10
        · exact gl f d3
        · exact gh f (by omega) hf
  · refine l11.trans ?_
    rw [show m.1 j (sF n 11) = nI r from r2, nI_1]
  · by_cases d : i = 0
    · subst d
      rw [show 19 + min (r + 1) 9 - 0 = 19 + min (r + 1) 9 by omega, y20]
      exact l19
    · obtain ⟨k, rfl⟩ : ∃ k, i = k + 1 := ⟨i - 1, by omega⟩
      rw [yi k hi, ← r4 k (by omega), show 19 + (k + 1) = 20 + k by omega]
      exact li k (by omega)
  · rw [gl 6 (by omega), sl 13 (by omega)]
    exact h.2.2.2.1 n hn
  · rw [sl 13 (by omega)] at q ⊢
    have hd' := h.2.2.2.2.2.2.2.2.1
    by_cases l : n' < n
    · exact hd' n n' hn l q
    · rw [q]; exact hd' n' n hn' (by omega) q.symm
  · by_cases d : f = 17
    · subst d
      rw [y17]
      rcases lgr (sp_X8_degrees (x.1 8) n) with z | z <;> rw [z] <;> decide
    · rw [sl _ (by omega)]; exact hb.1 f hf
  · rw [sl 12 (by omega)]; exact hb.2.1
  · rw [y17]
    rcases lgr (sp_X8_degrees (x.1 8) n) with z | z <;> rw [z]
    · exact ni_z (by omega)
    · exact ni_nI (k := 1) (by omega) (by omega)
theorem iv_lp {s : Nat → Int32} {t : Nat} {w : Int64} {H : Int} (hH : H ≤ 850000) : ∀ (f : Nat) (x y : Int32), -200000 ≤ x.toInt → x.toInt ≤ y.toInt → y.toInt ≤ H → ¬ lp_X8_inverseOf_56 s t w f x y ≤ -2000000001 := by
  intro f
  induction f with
  | zero => intro x y _ _ _; show ¬ (0 : Int32) ≤ -2000000001; decide
  | succ f ih =>
    intro x y h1 h2 h3
    unfold lp_X8_inverseOf_56
    by_cases c : y ≤ x
    · rw [if_pos c]; exact nle_bd (by omega)
    · rw [if_neg c]
      rw [Int32.le_iff_toInt_le] at c
      obtain ⟨m1, m2⟩ := midI (x := x) (y := y) h1 h2 (by omega)
      by_cases d : (sp_X8_ratioAt s t (x + ((y - x) / 2))).toInt64 < w
      · rw [if_pos d]; exact ih _ _ (by rw [m2]; omega) (by rw [m2]; omega) h3
      · rw [if_neg d]; exact ih _ _ h1 (by rw [m1]; omega) (by rw [m1]; omega)
theorem dg_ok {B n : Nat} {g s : Nat → Int32} (h : SimS B g s) (hn : n < cS s) (hd : sp_X8_diagnosed s n = 0) : ¬ sp_X8_degrees s n ≤ -2000000001 := by
  have h4 : ¬ sp_X8_degrees s n = -2000000004 := by
    intro q
    unfold sp_X8_diagnosed at hd
    rw [q] at hd
    repeat' split at hd
    all_goals first | exact absurd hd (by decide) | exact absurd rfl ‹_›
  obtain ⟨-, o3⟩ := tabO h hn
  have hG := (simS_R h).1
  have hT := (hG.2.1 _ o3).1
  unfold sp_X8_degrees at h4 ⊢
  generalize (sp_X8_without s n * 1000000) / (s (85 + 29 * n + 3)).toInt64 = w at *
  unfold sp_X8_inverseOf at h4 ⊢
  by_cases c1 : nI (s (10 + 25 * (oN s n))).toNatClampNeg < 2
  · rw [if_pos c1] at h4; exact absurd rfl h4
  · rw [if_neg c1] at h4 ⊢
    by_cases c2 : w < (s (23 + 25 * (oN s n) + 0)).toInt64
    · rw [if_pos c2] at h4; exact absurd rfl h4
    · rw [if_neg c2] at h4 ⊢
      by_cases c3 : w ≤ (s (23 + 25 * (oN s n) + ((s (10 + 25 * (oN s n))).toNatClampNeg - 1))).toInt64
      · rw [if_pos c3]
        have h2 := ((simS_R h).2 n hn).2.1
        have fl := rt_fl hT h2
        have lo := (hT.2 0 (by omega)).1
        have hi := (hT.2 (rN s (oN s n) - 1) (by omega)).2
        exact iv_lp (H := (rL s (oN s n)).toInt) hi _ _ _ lo fl.1 (Int.le_refl _)
      · rw [if_neg c3] at h4; exact absurd rfl h4
theorem st_read {B : Nat} {μ : Mu} (h : Inv B μ) (hB : B < 2 ^ 30) (a : Int32) : Stq (B + 1) (sp_X7_read μ a) (fun m => sp_X8_read m a) := by
  have hS := h.1
  have k8 : ∀ x : Mu, (pC x 11 0 8 0 259).1 8 = x.1 8 := fun x => pC_row (by omega)
  have up : ∀ {r : Int32} {μ' : Mu} {b : Mu → Int32 × Mu}, Inv B μ' → b μ' = (r, pC μ' 11 0 8 0 259) → Stq (B + 1) (r, μ') b := by
    intro r μ' b hI e
    unfold Stq
    rw [e]
    exact ⟨rfl, inv_kp hI (Nat.le_succ _)⟩
  unfold sp_X7_read
  rw [senI hS]
  by_cases c : 0 ≤ a ∧ a ≤ μ.1 8 1 - 1
  · rw [if_pos c]
    obtain ⟨ea, hn⟩ := sen_lt hS c
    have hc7 := simS_c hS
    generalize hna : a.toNatClampNeg = n at *
    subst ea
    show Stq (B + 1) (if dgn (μ.1 0) n = 0 then _ else _) _
    rw [dgn_eq hS hn]
    have hM := inv_ms h (Nat.le_refl _) n
    have e8 : (msr μ 0 n).1 8 = μ.1 8 := ms_M _ _ (by omega)
    have e0 : (msr μ 0 n).1 0 = μ.1 0 := ms_M _ _ (by omega)
    by_cases c1 : sp_X8_diagnosed (μ.1 8) n = 0
    · rw [if_pos c1]
      have e61 : (sp_X0_record (msr μ 0 n)).1 6 1 = sp_X8_degrees (μ.1 8) n := by rw [rec_6 hM (by omega), ms_r, rdg_eq hS hn]
      rw [e61]
      have r0 : (sp_X0_record (msr μ 0 n)).1 0 = μ.1 0 := by rw [rec_0 hM, e0]
      have hA : ni 2 ((sp_X0_record (msr μ 0 n)).1 0 (sF n 10)) := by
        rw [r0, show μ.1 0 (sF n 10) = μ.1 8 (85 + 29 * n + 17) from (simS_N hS hn).2.2.2.1 3 (by omega)]
        exact (hS.2.2.2.2.2.2.2.2.2.2 n (by omega)).2.2
      obtain ⟨l1, l2, -⟩ := lg_row (sp_X0_record (msr μ 0 n)) 0 n (sp_X8_degrees (μ.1 8) n) hA
      have x8 : (sp_X3_log (sp_X0_record (msr μ 0 n)) 0 n (sp_X8_degrees (μ.1 8) n)).1 8 = μ.1 8 := by rw [l2 8 (by omega), rec_7 hM (by omega), e8]
      have kx : (pC (sp_X3_log (sp_X0_record (msr μ 0 n)) 0 n (sp_X8_degrees (μ.1 8) n)) 11 0 8 0 259).1 8 = μ.1 8 := by rw [k8, x8]
      obtain ⟨y, y1, y2, y3, y4⟩ := rd_sim (B := B) (j := 0) (n := n) (m := sp_X0_record (msr μ 0 n)) (x := pC (sp_X3_log (sp_X0_record (msr μ 0 n)) 0 n (sp_X8_degrees (μ.1 8) n)) 11 0 8 0 259) (by rw [kx, r0]; exact hS) hB (by rw [kx]; exact hn) (by rw [kx]; exact c1)
      rw [kx] at y1 y4
      refine stp_ch (m := y) (w := sp_X8_degrees (μ.1 8) n) hM (Nat.le_succ _) ⟨congrArg Prod.snd l1, l2⟩ ?_ ?_ ⟨?_, fun c h1 h2 => ?_, fun z hz => ?_⟩ (dg_ok hS hn c1) y4
      · show sp_X8_read _ (nI n) = _
        unfold sp_X8_read
        rw [y1]
      · rw [l2 6 (by omega), e61]
      · rw [y2]; rfl
      · rw [y3 c h1, pC_row h2]
      · rw [y3 11 (by omega), kp_11 _ hz]
    · rw [if_neg c1]
      refine up hM ?_
      have er := reads_no (x := pC (msr μ 0 n) 11 0 8 0 259) (B := B) (g := μ.1 0) (by rw [k8, e8]; exact hS) (by rw [k8, e8]; exact hn) (by rw [k8, e8]; exact c1)
      show sp_X8_read _ (nI n) = _
      unfold sp_X8_read
      rw [er]; dsimp only; rw [acted_no (by decide)]
  · rw [if_neg c]
    refine up h ?_
    have er : sp_X8_reads (pC μ 11 0 8 0 259) a = (-2000000001, pC μ 11 0 8 0 259) := by
      unfold sp_X8_reads
      rw [k8, if_neg c]
    show sp_X8_read _ a = _
    unfold sp_X8_read
    rw [er]; dsimp only; rw [acted_no (by decide)]
