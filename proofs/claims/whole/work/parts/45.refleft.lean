/-! ===== the reference: what orders leave as it is; faults leave the settings ===== -/
/-- the number of states, the length of the text, what was kept, what was begun, the text stay -/
def OF (m0 m : Mu) : Prop := m.1 7 0 = m0.1 7 0 ∧ m.1 7 1 = m0.1 7 1 ∧ m.1 9 = m0.1 9 ∧ m.1 11 = m0.1 11 ∧ m.1 12 = m0.1 12
theorem of_pM {m0 m : Mu} {c k : Nat} {v : Int32} (hc : c ≠ 7 ∧ c ≠ 9 ∧ c ≠ 11 ∧ c ≠ 12) (h : OF m0 m) : OF m0 (pM m c k v) := by
  unfold OF at h ⊢
  rw [pM_row (Ne.symm hc.1), pM_row (Ne.symm hc.2.1), pM_row (Ne.symm hc.2.2.1), pM_row (Ne.symm hc.2.2.2)]; exact h
theorem of_7 {m0 m : Mu} {k : Nat} {v : Int32} (hk : k ≠ 0 ∧ k ≠ 1) (h : OF m0 m) : OF m0 (pM m 7 k v) := by
  unfold OF at h ⊢
  have e0 : (pM m 7 k v).1 7 0 = m.1 7 0 := by simp [pM, upM, Ne.symm hk.1]
  have e1 : (pM m 7 k v).1 7 1 = m.1 7 1 := by simp [pM, upM, Ne.symm hk.2]
  rw [e0, e1, pM_row (by decide), pM_row (by decide), pM_row (by decide)]; exact h
theorem of_lf {m0 : Mu} {v : Int32} {m : Mu} (h : OF m0 m) : OF m0 ((v, m).2) := h
theorem of_ite {m0 : Mu} {P : Prop} [Decidable P] {a b : Int32 × Mu} (ha : OF m0 a.2) (hb : OF m0 b.2) : OF m0 (if P then a else b).2 := by
  split
  · exact ha
  · exact hb
theorem of_iteM {m0 : Mu} {P : Prop} [Decidable P] {a b : Mu} (ha : OF m0 a) (hb : OF m0 b) : OF m0 (if P then a else b) := by
  split
  · exact ha
  · exact hb
theorem of_oc {m0 : Mu} {o : Option Nat} {a : Int32 × Mu} {f : Nat → Int32 × Mu} (ha : OF m0 a.2) (hb : ∀ t, OF m0 (f t).2) : OF m0 (oc o a f).2 := by
  cases o with
  | none => exact ha
  | some t => exact hb t
theorem of_ocM {m0 : Mu} {o : Option Nat} {a : Mu} {f : Nat → Mu} (ha : OF m0 a) (hb : ∀ t, OF m0 (f t)) : OF m0 (oc o a f) := by
  cases o with
  | none => exact ha
  | some t => exact hb t
theorem of_X8_alarms {m0 : Mu} (μ : Mu)  (n : Nat) (w : Int32)  (hh : OF m0 μ) : OF m0 ((sp_X8_alarms μ n w)) := by
  unfold sp_X8_alarms
  exact (of_iteM (of_iteM (of_pM (by decide) hh) (of_iteM (of_pM (by decide) hh) (of_pM (by decide) hh))) (of_iteM (of_pM (by decide) hh) (of_iteM (of_pM (by decide) hh) (of_pM (by decide) hh))))
theorem of_X8_cuts {m0 : Mu} (μ : Mu)  (a : Int32) (b : Int32) (w : Int32)  (hh : OF m0 μ) : OF m0 ((sp_X8_cuts μ a b w).2) := by
  unfold sp_X8_cuts
  exact (of_ite (of_ite (of_ite (of_lf hh) (of_lf (of_pM (by decide) hh))) (of_lf hh)) (of_lf hh))
theorem of_X8_baths {m0 : Mu} (μ : Mu)  (a : Int32) (b : Int32)  (hh : OF m0 μ) : OF m0 ((sp_X8_baths μ a b).2) := by
  unfold sp_X8_baths
  exact (of_ite (of_ite (of_ite (of_lf (of_pM (by decide) hh)) (of_lf hh)) (of_lf hh)) (of_lf hh))
theorem of_X8_reads {m0 : Mu} (μ : Mu)  (a : Int32)  (hh : OF m0 μ) : OF m0 ((sp_X8_reads μ a).2) := by
  unfold sp_X8_reads
  exact (of_ite (of_ite (of_ite (of_lf (of_X8_alarms (pM (pM (pM (pM (pM (pM (pM (pM (pM (pM (pM (pM μ 8 (85 + 29 * a.toNatClampNeg + 20) (μ.1 8 (85 + 29 * a.toNatClampNeg + 21))) 8 (85 + 29 * a.toNatClampNeg + 21) (μ.1 8 (85 + 29 * a.toNatClampNeg + 22))) 8 (85 + 29 * a.toNatClampNeg + 22) (μ.1 8 (85 + 29 * a.toNatClampNeg + 23))) 8 (85 + 29 * a.toNatClampNeg + 23) (μ.1 8 (85 + 29 * a.toNatClampNeg + 24))) 8 (85 + 29 * a.toNatClampNeg + 24) (μ.1 8 (85 + 29 * a.toNatClampNeg + 25))) 8 (85 + 29 * a.toNatClampNeg + 25) (μ.1 8 (85 + 29 * a.toNatClampNeg + 26))) 8 (85 + 29 * a.toNatClampNeg + 26) (μ.1 8 (85 + 29 * a.toNatClampNeg + 27))) 8 (85 + 29 * a.toNatClampNeg + 27) (μ.1 8 (85 + 29 * a.toNatClampNeg + 28))) 8 (85 + 29 * a.toNatClampNeg + 19) (8 : Int32)) 8 (85 + 29 * a.toNatClampNeg + 28) (sp_X8_degrees (μ.1 8)  a.toNatClampNeg)) 8 (85 + 29 * a.toNatClampNeg + 19) (9 : Int32)) 8 (85 + 29 * a.toNatClampNeg + 18) ((μ.1 8 (85 + 29 * a.toNatClampNeg + 18)) + 1)) a.toNatClampNeg (sp_X8_degrees (μ.1 8)  a.toNatClampNeg)  (of_pM (by decide) (of_pM (by decide) (of_pM (by decide) (of_pM (by decide) (of_pM (by decide) (of_pM (by decide) (of_pM (by decide) (of_pM (by decide) (of_pM (by decide) (of_pM (by decide) (of_pM (by decide) (of_pM (by decide) hh)))))))))))))) (of_lf (of_X8_alarms (pM (pM (pM μ 8 (85 + 29 * a.toNatClampNeg + (20 + ((μ.1 8 (85 + 29 * a.toNatClampNeg + 19)).toNatClampNeg))) (sp_X8_degrees (μ.1 8)  a.toNatClampNeg)) 8 (85 + 29 * a.toNatClampNeg + 19) (nI ((μ.1 8 (85 + 29 * a.toNatClampNeg + 19)).toNatClampNeg + 1))) 8 (85 + 29 * a.toNatClampNeg + 18) ((μ.1 8 (85 + 29 * a.toNatClampNeg + 18)) + 1)) a.toNatClampNeg (sp_X8_degrees (μ.1 8)  a.toNatClampNeg)  (of_pM (by decide) (of_pM (by decide) (of_pM (by decide) hh)))))) (of_lf hh)) (of_lf hh))
theorem of_lp_X8_scans_42 {m0 : Mu} (μ : Mu)   (hh : OF m0 μ) (f : Nat) : ∀ (v0 : Int32) (k : Nat), OF m0 ((lp_X8_scans_42 μ  f v0 k).2) := by
  induction f with
  | zero => intro v0 k; exact hh
  | succ f ih =>
    intro v0 k
    unfold lp_X8_scans_42
    exact (of_ite (of_lf hh) (of_ite (ih _ _) (of_ite (of_lf (of_X8_reads (pM μ 8 9 ((10 * (((v0 + (nI k)) - (v0 + (nI k)) / 12 * 12) / 3)) + (((v0 + (nI k)) - (v0 + (nI k)) / 12 * 12) - ((v0 + (nI k)) - (v0 + (nI k)) / 12 * 12) / 3 * 3))) (sp_X8_inside (μ.1 8)  ((10 * (((v0 + (nI k)) - (v0 + (nI k)) / 12 * 12) / 3)) + (((v0 + (nI k)) - (v0 + (nI k)) / 12 * 12) - ((v0 + (nI k)) - (v0 + (nI k)) / 12 * 12) / 3 * 3)))  (of_pM (by decide) hh))) (of_lf (of_X8_reads (pM μ 8 9 ((10 * (((v0 + (nI k)) - (v0 + (nI k)) / 12 * 12) / 3)) + (((v0 + (nI k)) - (v0 + (nI k)) / 12 * 12) - ((v0 + (nI k)) - (v0 + (nI k)) / 12 * 12) / 3 * 3))) (sp_X8_inside (μ.1 8)  ((10 * (((v0 + (nI k)) - (v0 + (nI k)) / 12 * 12) / 3)) + (((v0 + (nI k)) - (v0 + (nI k)) / 12 * 12) - ((v0 + (nI k)) - (v0 + (nI k)) / 12 * 12) / 3 * 3)))  (of_pM (by decide) hh))))))
theorem of_X8_scans {m0 : Mu} (μ : Mu)    (hh : OF m0 μ) : OF m0 ((sp_X8_scans μ ).2) := by
  unfold sp_X8_scans
  exact (of_ite (of_lp_X8_scans_42 _ hh 13 (11 : Int32) 1) (of_lp_X8_scans_42 _ hh 13 ((3 * ((μ.1 8 9) / 10)) + ((μ.1 8 9) - (μ.1 8 9) / 10 * 10)) 1))
theorem of_X8_passes {m0 : Mu} (μ : Mu)  (ch : Int32)  (hh : OF m0 μ) : OF m0 ((sp_X8_passes μ ch).2) := by
  unfold sp_X8_passes
  exact (of_ite (of_lf (of_7 (by decide) hh)) (of_ite (of_lf (of_7 (by decide) hh)) (of_lf (of_7 (by decide) hh))))
theorem of_lp_X8_takes_12 {m0 : Mu} (μ : Mu)  (k : Nat)  (f : Nat) : ∀  (μ1 : Mu), OF m0 μ1 → OF m0 ((lp_X8_takes_12 μ k  f  μ1).2) := by
  induction f with
  | zero => intro  μ1 h1; exact h1
  | succ f ih =>
    intro  μ1 h1
    unfold lp_X8_takes_12
    exact (of_ite (of_ite (of_lf h1) (of_lf h1)) (of_ite (of_ite (of_lf h1) (of_lf h1)) (of_ite (ih _ (of_7 (by decide) (of_pM (by decide) h1))) (of_ite (of_lf h1) (of_lf h1)))))
theorem of_X8_takes {m0 : Mu} (μ : Mu)  (k : Nat)  (hh : OF m0 μ) : OF m0 ((sp_X8_takes μ k).2) := by
  unfold sp_X8_takes
  exact (of_lp_X8_takes_12 _ _ _ _ (of_pM (by decide) hh))
theorem of_X8_readsForm {m0 : Mu} (μ : Mu)  (ch : Int32)  (hh : OF m0 μ) : OF m0 ((sp_X8_readsForm μ ch).2) := by
  unfold sp_X8_readsForm
  exact (of_ite (of_ite (of_lf (of_X8_passes μ (59 : Int32)  hh)) (of_lf (of_X8_passes μ (59 : Int32)  hh))) (of_ite (of_ite (of_lf (of_X8_takes μ 0  hh)) (of_ite (of_lf (of_X8_passes ((sp_X8_takes μ  0).2) (59 : Int32)  (of_X8_takes μ 0  hh))) (of_lf (of_X8_passes ((sp_X8_takes μ  0).2) (59 : Int32)  (of_X8_takes μ 0  hh))))) (of_ite (of_ite (of_lf (of_X8_takes μ 0  hh)) (of_ite (of_lf (of_pM (by decide) (of_X8_passes ((sp_X8_takes μ  0).2) (44 : Int32)  (of_X8_takes μ 0  hh)))) (of_ite (of_ite (of_lf (of_pM (by decide) (of_X8_takes ((sp_X8_passes ((sp_X8_passes ((sp_X8_takes μ  0).2)  (44 : Int32)).2)  (45 : Int32)).2) 1  (of_X8_passes ((sp_X8_passes ((sp_X8_takes μ  0).2)  (44 : Int32)).2) (45 : Int32)  (of_X8_passes ((sp_X8_takes μ  0).2) (44 : Int32)  (of_X8_takes μ 0  hh)))))) (of_ite (of_lf (of_X8_passes (pM ((sp_X8_takes ((sp_X8_passes ((sp_X8_passes ((sp_X8_takes μ  0).2)  (44 : Int32)).2)  (45 : Int32)).2)  1).2) 13 1 (((sp_X8_takes ((sp_X8_passes ((sp_X8_passes ((sp_X8_takes μ  0).2)  (44 : Int32)).2)  (45 : Int32)).2)  1).2).1 13 1)) (59 : Int32)  (of_pM (by decide) (of_X8_takes ((sp_X8_passes ((sp_X8_passes ((sp_X8_takes μ  0).2)  (44 : Int32)).2)  (45 : Int32)).2) 1  (of_X8_passes ((sp_X8_passes ((sp_X8_takes μ  0).2)  (44 : Int32)).2) (45 : Int32)  (of_X8_passes ((sp_X8_takes μ  0).2) (44 : Int32)  (of_X8_takes μ 0  hh))))))) (of_lf (of_X8_passes (pM ((sp_X8_takes ((sp_X8_passes ((sp_X8_passes ((sp_X8_takes μ  0).2)  (44 : Int32)).2)  (45 : Int32)).2)  1).2) 13 1 (((sp_X8_takes ((sp_X8_passes ((sp_X8_passes ((sp_X8_takes μ  0).2)  (44 : Int32)).2)  (45 : Int32)).2)  1).2).1 13 1)) (59 : Int32)  (of_pM (by decide) (of_X8_takes ((sp_X8_passes ((sp_X8_passes ((sp_X8_takes μ  0).2)  (44 : Int32)).2)  (45 : Int32)).2) 1  (of_X8_passes ((sp_X8_passes ((sp_X8_takes μ  0).2)  (44 : Int32)).2) (45 : Int32)  (of_X8_passes ((sp_X8_takes μ  0).2) (44 : Int32)  (of_X8_takes μ 0  hh))))))))) (of_ite (of_lf (of_pM (by decide) (of_X8_takes ((sp_X8_passes ((sp_X8_passes ((sp_X8_takes μ  0).2)  (44 : Int32)).2)  (45 : Int32)).2) 1  (of_X8_passes ((sp_X8_passes ((sp_X8_takes μ  0).2)  (44 : Int32)).2) (45 : Int32)  (of_X8_passes ((sp_X8_takes μ  0).2) (44 : Int32)  (of_X8_takes μ 0  hh)))))) (of_ite (of_lf (of_X8_passes (pM ((sp_X8_takes ((sp_X8_passes ((sp_X8_passes ((sp_X8_takes μ  0).2)  (44 : Int32)).2)  (45 : Int32)).2)  1).2) 13 1 (-(((sp_X8_takes ((sp_X8_passes ((sp_X8_passes ((sp_X8_takes μ  0).2)  (44 : Int32)).2)  (45 : Int32)).2)  1).2).1 13 1))) (59 : Int32)  (of_pM (by decide) (of_X8_takes ((sp_X8_passes ((sp_X8_passes ((sp_X8_takes μ  0).2)  (44 : Int32)).2)  (45 : Int32)).2) 1  (of_X8_passes ((sp_X8_passes ((sp_X8_takes μ  0).2)  (44 : Int32)).2) (45 : Int32)  (of_X8_passes ((sp_X8_takes μ  0).2) (44 : Int32)  (of_X8_takes μ 0  hh))))))) (of_lf (of_X8_passes (pM ((sp_X8_takes ((sp_X8_passes ((sp_X8_passes ((sp_X8_takes μ  0).2)  (44 : Int32)).2)  (45 : Int32)).2)  1).2) 13 1 (-(((sp_X8_takes ((sp_X8_passes ((sp_X8_passes ((sp_X8_takes μ  0).2)  (44 : Int32)).2)  (45 : Int32)).2)  1).2).1 13 1))) (59 : Int32)  (of_pM (by decide) (of_X8_takes ((sp_X8_passes ((sp_X8_passes ((sp_X8_takes μ  0).2)  (44 : Int32)).2)  (45 : Int32)).2) 1  (of_X8_passes ((sp_X8_passes ((sp_X8_takes μ  0).2)  (44 : Int32)).2) (45 : Int32)  (of_X8_passes ((sp_X8_takes μ  0).2) (44 : Int32)  (of_X8_takes μ 0  hh)))))))))))) (of_ite (of_ite (of_lf (of_X8_takes μ 0  hh)) (of_ite (of_lf (of_pM (by decide) (of_X8_passes ((sp_X8_takes μ  0).2) (44 : Int32)  (of_X8_takes μ 0  hh)))) (of_ite (of_lf (of_pM (by decide) (of_X8_takes ((sp_X8_passes ((sp_X8_takes μ  0).2)  (44 : Int32)).2) 1  (of_X8_passes ((sp_X8_takes μ  0).2) (44 : Int32)  (of_X8_takes μ 0  hh))))) (of_ite (of_lf (of_X8_passes (pM ((sp_X8_takes ((sp_X8_passes ((sp_X8_takes μ  0).2)  (44 : Int32)).2)  1).2) 13 1 (((sp_X8_takes ((sp_X8_passes ((sp_X8_takes μ  0).2)  (44 : Int32)).2)  1).2).1 13 1)) (59 : Int32)  (of_pM (by decide) (of_X8_takes ((sp_X8_passes ((sp_X8_takes μ  0).2)  (44 : Int32)).2) 1  (of_X8_passes ((sp_X8_takes μ  0).2) (44 : Int32)  (of_X8_takes μ 0  hh)))))) (of_lf (of_X8_passes (pM ((sp_X8_takes ((sp_X8_passes ((sp_X8_takes μ  0).2)  (44 : Int32)).2)  1).2) 13 1 (((sp_X8_takes ((sp_X8_passes ((sp_X8_takes μ  0).2)  (44 : Int32)).2)  1).2).1 13 1)) (59 : Int32)  (of_pM (by decide) (of_X8_takes ((sp_X8_passes ((sp_X8_takes μ  0).2)  (44 : Int32)).2) 1  (of_X8_passes ((sp_X8_takes μ  0).2) (44 : Int32)  (of_X8_takes μ 0  hh)))))))))) (of_ite (of_ite (of_lf (of_X8_takes μ 0  hh)) (of_ite (of_lf (of_pM (by decide) (of_X8_passes ((sp_X8_takes μ  0).2) (44 : Int32)  (of_X8_takes μ 0  hh)))) (of_ite (of_lf (of_pM (by decide) (of_X8_takes ((sp_X8_passes ((sp_X8_takes μ  0).2)  (44 : Int32)).2) 1  (of_X8_passes ((sp_X8_takes μ  0).2) (44 : Int32)  (of_X8_takes μ 0  hh))))) (of_ite (of_lf (of_X8_passes (pM ((sp_X8_takes ((sp_X8_passes ((sp_X8_takes μ  0).2)  (44 : Int32)).2)  1).2) 13 1 (((sp_X8_takes ((sp_X8_passes ((sp_X8_takes μ  0).2)  (44 : Int32)).2)  1).2).1 13 1)) (59 : Int32)  (of_pM (by decide) (of_X8_takes ((sp_X8_passes ((sp_X8_takes μ  0).2)  (44 : Int32)).2) 1  (of_X8_passes ((sp_X8_takes μ  0).2) (44 : Int32)  (of_X8_takes μ 0  hh)))))) (of_lf (of_X8_passes (pM ((sp_X8_takes ((sp_X8_passes ((sp_X8_takes μ  0).2)  (44 : Int32)).2)  1).2) 13 1 (((sp_X8_takes ((sp_X8_passes ((sp_X8_takes μ  0).2)  (44 : Int32)).2)  1).2).1 13 1)) (59 : Int32)  (of_pM (by decide) (of_X8_takes ((sp_X8_passes ((sp_X8_takes μ  0).2)  (44 : Int32)).2) 1  (of_X8_passes ((sp_X8_takes μ  0).2) (44 : Int32)  (of_X8_takes μ 0  hh)))))))))) (of_lf hh))))))
theorem of_X8_does {m0 : Mu} (μ : Mu)  (ch : Int32)  (hh : OF m0 μ) : OF m0 ((sp_X8_does μ ch).2) := by
  unfold sp_X8_does
  exact (of_ite (of_lf (of_X8_cuts μ (μ.1 13 0) (μ.1 13 1) (1 : Int32)  hh)) (of_ite (of_lf (of_X8_cuts μ (μ.1 13 0) (μ.1 13 1) (0 : Int32)  hh)) (of_ite (of_lf (of_X8_reads μ (μ.1 13 0)  hh)) (of_ite (of_lf (of_X8_baths μ (μ.1 13 0) (μ.1 13 1)  hh)) (of_lf (of_X8_scans μ  hh))))))
theorem of_X8_doesNext {m0 : Mu} (μ : Mu)    (hh : OF m0 μ) : OF m0 ((sp_X8_doesNext μ ).2) := by
  unfold sp_X8_doesNext
  exact (of_ite (of_lf (of_X8_readsForm (pM μ 7 2 (nI ((μ.1 7 2).toNatClampNeg + 1))) (μ.1 12 ((μ.1 7 2).toNatClampNeg))  (of_7 (by decide) hh))) (of_ite (of_ite (of_lf (of_X8_does ((sp_X8_readsForm (pM μ 7 2 (nI ((μ.1 7 2).toNatClampNeg + 1)))  (μ.1 12 ((μ.1 7 2).toNatClampNeg))).2) (μ.1 12 ((μ.1 7 2).toNatClampNeg))  (of_X8_readsForm (pM μ 7 2 (nI ((μ.1 7 2).toNatClampNeg + 1))) (μ.1 12 ((μ.1 7 2).toNatClampNeg))  (of_7 (by decide) hh)))) (of_lf (of_X8_does ((sp_X8_readsForm (pM μ 7 2 (nI ((μ.1 7 2).toNatClampNeg + 1)))  (μ.1 12 ((μ.1 7 2).toNatClampNeg))).2) (μ.1 12 ((μ.1 7 2).toNatClampNeg))  (of_X8_readsForm (pM μ 7 2 (nI ((μ.1 7 2).toNatClampNeg + 1))) (μ.1 12 ((μ.1 7 2).toNatClampNeg))  (of_7 (by decide) hh))))) (of_ite (of_ite (of_ite (of_lf (of_X8_does ((sp_X8_readsForm (pM μ 7 2 (nI ((μ.1 7 2).toNatClampNeg + 1)))  (μ.1 12 ((μ.1 7 2).toNatClampNeg))).2) (μ.1 12 ((μ.1 7 2).toNatClampNeg))  (of_X8_readsForm (pM μ 7 2 (nI ((μ.1 7 2).toNatClampNeg + 1))) (μ.1 12 ((μ.1 7 2).toNatClampNeg))  (of_7 (by decide) hh)))) (of_lf (of_X8_does ((sp_X8_readsForm (pM μ 7 2 (nI ((μ.1 7 2).toNatClampNeg + 1)))  (μ.1 12 ((μ.1 7 2).toNatClampNeg))).2) (μ.1 12 ((μ.1 7 2).toNatClampNeg))  (of_X8_readsForm (pM μ 7 2 (nI ((μ.1 7 2).toNatClampNeg + 1))) (μ.1 12 ((μ.1 7 2).toNatClampNeg))  (of_7 (by decide) hh))))) (of_lf (of_X8_readsForm (pM μ 7 2 (nI ((μ.1 7 2).toNatClampNeg + 1))) (μ.1 12 ((μ.1 7 2).toNatClampNeg))  (of_7 (by decide) hh)))) (of_ite (of_ite (of_ite (of_lf (of_X8_does ((sp_X8_readsForm (pM μ 7 2 (nI ((μ.1 7 2).toNatClampNeg + 1)))  (μ.1 12 ((μ.1 7 2).toNatClampNeg))).2) (μ.1 12 ((μ.1 7 2).toNatClampNeg))  (of_X8_readsForm (pM μ 7 2 (nI ((μ.1 7 2).toNatClampNeg + 1))) (μ.1 12 ((μ.1 7 2).toNatClampNeg))  (of_7 (by decide) hh)))) (of_lf (of_X8_does ((sp_X8_readsForm (pM μ 7 2 (nI ((μ.1 7 2).toNatClampNeg + 1)))  (μ.1 12 ((μ.1 7 2).toNatClampNeg))).2) (μ.1 12 ((μ.1 7 2).toNatClampNeg))  (of_X8_readsForm (pM μ 7 2 (nI ((μ.1 7 2).toNatClampNeg + 1))) (μ.1 12 ((μ.1 7 2).toNatClampNeg))  (of_7 (by decide) hh))))) (of_lf (of_X8_readsForm (pM μ 7 2 (nI ((μ.1 7 2).toNatClampNeg + 1))) (μ.1 12 ((μ.1 7 2).toNatClampNeg))  (of_7 (by decide) hh)))) (of_ite (of_ite (of_lf (of_X8_does ((sp_X8_readsForm (pM μ 7 2 (nI ((μ.1 7 2).toNatClampNeg + 1)))  (μ.1 12 ((μ.1 7 2).toNatClampNeg))).2) (μ.1 12 ((μ.1 7 2).toNatClampNeg))  (of_X8_readsForm (pM μ 7 2 (nI ((μ.1 7 2).toNatClampNeg + 1))) (μ.1 12 ((μ.1 7 2).toNatClampNeg))  (of_7 (by decide) hh)))) (of_lf (of_X8_does ((sp_X8_readsForm (pM μ 7 2 (nI ((μ.1 7 2).toNatClampNeg + 1)))  (μ.1 12 ((μ.1 7 2).toNatClampNeg))).2) (μ.1 12 ((μ.1 7 2).toNatClampNeg))  (of_X8_readsForm (pM μ 7 2 (nI ((μ.1 7 2).toNatClampNeg + 1))) (μ.1 12 ((μ.1 7 2).toNatClampNeg))  (of_7 (by decide) hh))))) (of_lf (of_X8_readsForm (pM μ 7 2 (nI ((μ.1 7 2).toNatClampNeg + 1))) (μ.1 12 ((μ.1 7 2).toNatClampNeg))  (of_7 (by decide) hh))))))))
theorem flt3 {μ : Mu} {g : Nat → Int32} : ∀ (f : Nat) (v : Int32) (k : Nat) (μ3 : Mu), k + f = 260 → k ≤ 259 → (∀ y, y < k → μ3.1 8 y = g y) → (∀ y, y < 259 → μ3.1 10 y = g y) → (∀ y, y < 259 → (lp_X8_faulty_83 μ f v k μ3).2.1 8 y = g y) ∧ OF μ3 (lp_X8_faulty_83 μ f v k μ3).2 := by
  intro f
  induction f with
  | zero => intro v k μ3 h1 h2; omega
  | succ f ih =>
    intro v k μ3 h1 h2 ha hb
    have e : ((259 : Int32) ≤ nI k) ↔ 259 ≤ k := nI_leI (a := 259) (by decide) (by omega)
    unfold lp_X8_faulty_83
    by_cases h : 259 ≤ k
    · rw [if_pos (e.mpr h)]
      exact ⟨fun y hy => ha y (by omega), rfl, rfl, rfl, rfl, rfl⟩
    · rw [if_neg (fun q => h (e.mp q))]
      obtain ⟨r1, r2⟩ := ih v (k + 1) (pM μ3 8 k (μ3.1 10 k)) (by omega) (by omega) (fun y hy => by
        by_cases q : y = k
        · subst q; rw [w8_eq]; exact hb y (by omega)
        · rw [w8_ne q]; exact ha y (by omega)) (fun y hy => by rw [pM_row (by decide)]; exact hb y hy)
      refine ⟨r1, ?_⟩
      have o : OF μ3 (pM μ3 8 k (μ3.1 10 k)) := of_pM (by decide) ⟨rfl, rfl, rfl, rfl, rfl⟩
      exact ⟨r2.1.trans o.1, r2.2.1.trans o.2.1, r2.2.2.1.trans o.2.2.1, r2.2.2.2.1.trans o.2.2.2.1, r2.2.2.2.2.trans o.2.2.2.2⟩
theorem of_tr {a b c : Mu} (r2 : OF b c) (o : OF a b) : OF a c := ⟨r2.1.trans o.1, r2.2.1.trans o.2.1, r2.2.2.1.trans o.2.2.1, r2.2.2.2.1.trans o.2.2.2.1, r2.2.2.2.2.trans o.2.2.2.2⟩
theorem of_rf {a : Mu} : OF a a := ⟨rfl, rfl, rfl, rfl, rfl⟩
theorem flt2 {μ : Mu} {g : Nat → Int32} : ∀ (f : Nat) (v : Int32) (μ2 : Mu), 62 ≤ (μ2.1 7 2).toNatClampNeg + f → AT μ2 → (∀ y, y < 259 → μ2.1 10 y = g y) → (∀ y, y < 259 → (lp_X8_faulty_35 μ f v μ2).2.1 8 y = g y) ∧ OF μ2 (lp_X8_faulty_35 μ f v μ2).2 := by
  intro f
  induction f with
  | zero => intro v μ2 h1 hA; have q := hA.2.2; omega
  | succ f ih =>
    intro v μ2 h1 hA hb
    have a1 := hA.1.2
    have a2 := hA.2.2
    unfold lp_X8_faulty_35
    by_cases c : (nI ((μ2.1 7 1).toNatClampNeg) : Int32) ≤ nI ((μ2.1 7 2).toNatClampNeg)
    · rw [if_pos c]
      exact flt3 _ _ _ _ (by omega) (by omega) (fun y hy => by omega) hb
    · rw [if_neg c]
      rw [nI_leI (by omega) (by omega)] at c
      have step : ∀ w : Int32, (∀ y, y < 259 → (lp_X8_faulty_35 μ f w (pM (sp_X8_doesNext μ2).2 7 3 (sp_X8_doesNext μ2).1)).2.1 8 y = g y) ∧ OF μ2 (lp_X8_faulty_35 μ f w (pM (sp_X8_doesNext μ2).2 7 3 (sp_X8_doesNext μ2).1)).2 := by
        intro w
        have q := ag_next (v := (sp_X8_doesNext μ2).1) hA (by omega)
        obtain ⟨r1, r2⟩ := ih w (pM (sp_X8_doesNext μ2).2 7 3 (sp_X8_doesNext μ2).1) (by omega) (at_73 (atp_X8_doesNext μ2 (by omega) hA)) (fun y hy => by
          rw [pM_row (by decide), show (sp_X8_doesNext μ2).2.1 10 = μ2.1 10 from r10_X8_doesNext μ2 (g := μ2.1 10) rfl]; exact hb y hy)
        exact ⟨r1, of_tr r2 (of_7 (by decide) (of_X8_doesNext μ2 of_rf))⟩
      split
      · split
        · exact step _
        · exact step _
      · exact flt3 _ _ _ _ (by omega) (by omega) (fun y hy => by omega) hb
theorem flt1 {μ : Mu} {g : Nat → Int32} : ∀ (f : Nat) (k : Nat) (μ1 : Mu), k + f = 260 → k ≤ 259 → ni 61 (μ1.1 7 1) → (∀ y, y < k → μ1.1 10 y = g y) → μ1.1 8 = g → (∀ y, y < 259 → (lp_X8_faulty_2 μ f k μ1).2.1 8 y = g y) ∧ OF μ1 (lp_X8_faulty_2 μ f k μ1).2 := by
  intro f
  induction f with
  | zero => intro k μ1 h1 h2; omega
  | succ f ih =>
    intro k μ1 h1 h2 hy1 ha hb
    have e : ((259 : Int32) ≤ nI k) ↔ 259 ≤ k := nI_leI (a := 259) (by decide) (by omega)
    unfold lp_X8_faulty_2
    by_cases h : 259 ≤ k
    · rw [if_pos (e.mpr h)]
      obtain ⟨r1, r2⟩ := flt2 (μ := μ) (g := g) 62 (-2000000004) (pM μ1 7 2 (0 : Int32)) (by rw [at0_c]; omega) (at_70 hy1) (fun y hy => by rw [pM_row (by decide)]; exact ha y (by omega))
      exact ⟨r1, of_tr r2 (of_7 (by decide) of_rf)⟩
    · rw [if_neg (fun q => h (e.mp q))]
      obtain ⟨r1, r2⟩ := ih (k + 1) (pM μ1 10 k (μ1.1 8 k)) (by omega) (by omega) (ty_10 (by decide) hy1) (fun y hy => by
        by_cases q : y = k
        · subst q
          have e2 : (pM μ1 10 y (μ1.1 8 y)).1 10 y = μ1.1 8 y := by simp [pM, upM]
          rw [e2, hb]
        · have e2 : (pM μ1 10 k (μ1.1 8 k)).1 10 y = μ1.1 10 y := by simp [pM, upM, q]
          rw [e2]; exact ha y (by omega)) (by rw [pM_row (by decide)]; exact hb)
      exact ⟨r1, of_tr r2 (of_pM (by decide) of_rf)⟩
/-- looking for a fault leaves the settings, the states, the text -/
theorem faulty_left {μ : Mu} (hty : ni 61 (μ.1 7 1)) : (∀ y, y < 259 → (sp_X8_faulty μ).2.1 8 y = μ.1 8 y) ∧ OF μ (sp_X8_faulty μ).2 := by
  have key := flt1 (μ := μ) (g := μ.1 8) 260 0 μ (by omega) (by omega) hty (fun y hy => by omega) rfl
  unfold sp_X8_faulty
  exact key
theorem rga_eq {m m' : Mu} (h : RGA m) (e : ∀ y, y < 259 → m'.1 8 y = m.1 8 y) : RGA m' := by
  refine ⟨rg_frame h.1 (fun y hy _ => e y (by omega)) (fun k hk => ?_), fun k hk => ?_⟩
  · rw [e (85 + 29 * k + 0) (by omega), e (85 + 29 * k + 19) (by omega), e (85 + 29 * k + 1) (by omega)]; exact h.1.1.2.2.2 k hk
  · rw [e 1 (by omega)] at hk
    have s := h.2 k hk
    have h6 := s.1
    exact rs_frame h.1.1 s (fun y hy _ => e y (by omega)) (e _ (by omega)) (e _ (by omega)) (e _ (by omega)) (e _ (by omega)) (by rw [e (85 + 29 * k + 4) (by omega)]; exact s.2.2.1)
theorem rga_X8_faulty (μ : Mu) (hty : ni 61 (μ.1 7 1)) (h : RGA μ) : RGA (sp_X8_faulty μ).2 := rga_eq h (faulty_left hty).1
