/-! ===== the reference: faults ===== -/
theorem rga_10 {m : Mu} {k : Nat} {v : Int32} (h : RGA m) : RGA (pM m 10 k v) := rga_pM (by decide) h
theorem ty_10 {m : Mu} {c k : Nat} {v : Int32} (hc : c ≠ 7) (h : ni 61 (m.1 7 1)) : ni 61 ((pM m c k v).1 7 1) := by rw [ty_up1 hc]; exact h
/-- the text is read at least so far -/
def ATG (x : Nat) (m : Mu) : Prop := AT m ∧ x ≤ (m.1 7 2).toNatClampNeg
theorem e72 {m : Mu} {v : Int32} : (pM m 7 2 v).1 7 2 = v := by simp [pM, upM]
theorem e73 {m : Mu} {v : Int32} : (pM m 7 3 v).1 7 2 = m.1 7 2 := by simp [pM, upM]
theorem ag_72 {x : Nat} {m : Mu} {k : Nat} (h : AT m) (hk : k < 61) (hx : x ≤ k) : ATG x (pM m 7 2 (nI k)) := by
  refine ⟨at_72 h hk, ?_⟩
  rw [e72, nI_clamp (by omega)]; exact hx
theorem ag_pM {x : Nat} {m : Mu} {c k : Nat} {v : Int32} (hc : c ≠ 7) (h : ATG x m) : ATG x (pM m c k v) := by
  refine ⟨at_pM hc h.1, ?_⟩
  rw [ty_up1 hc]; exact h.2
theorem ag_pC {x : Nat} {m : Mu} {c b c' b' n : Nat} (hc : c ≠ 7) (h : ATG x m) : ATG x (pC m c b c' b' n) := by
  refine ⟨at_pC hc h.1, ?_⟩
  rw [pC_row (Ne.symm hc)]; exact h.2
theorem ag_X8_passes {x : Nat} (μ : Mu) (ch : Int32) (h : ATG x μ) : ATG x (sp_X8_passes μ ch).2 := by
  have a1 := h.1.1.2
  have a2 := h.1.2.2
  have a3 := h.2
  unfold sp_X8_passes
  by_cases c : (nI ((μ.1 7 1).toNatClampNeg) : Int32) ≤ nI ((μ.1 7 2).toNatClampNeg)
  · rw [if_pos c]; exact ag_72 h.1 (by omega) (by omega)
  · rw [if_neg c]
    rw [nI_leI (by omega) (by omega)] at c
    split <;> exact ag_72 h.1 (by omega) (by omega)
theorem ag_lp_X8_takes {x : Nat} (μ : Mu) (k : Nat) : ∀ (f : Nat) (μ1 : Mu), ATG x μ1 → ATG x (lp_X8_takes_12 μ k f μ1).2 := by
  intro f
  induction f with
  | zero => intro μ1 h; exact h
  | succ f ih =>
    intro μ1 h
    have a1 := h.1.1.2
    have a2 := h.1.2.2
    have a3 := h.2
    unfold lp_X8_takes_12
    by_cases c : (nI ((μ1.1 7 1).toNatClampNeg) : Int32) ≤ nI ((μ1.1 7 2).toNatClampNeg)
    · rw [if_pos c]; split <;> exact h
    · rw [if_neg c]
      rw [nI_leI (by omega) (by omega)] at c
      repeat' split
      all_goals (first | exact h | exact ih _ (ag_72 (at_pM (by decide) h.1) (by omega) (by omega)))
theorem ag_X8_takes {x : Nat} (μ : Mu) (k : Nat) (h : ATG x μ) : ATG x (sp_X8_takes μ k).2 := ag_lp_X8_takes _ _ _ _ (ag_pM (by decide) h)
theorem ag_lf {x : Nat} {v : Int32} {m : Mu} (h : ATG x m) : ATG x ((v, m).2) := h
theorem ag_ite {x : Nat} {P : Prop} [Decidable P] {a b : Int32 × Mu} (ha : ATG x a.2) (hb : ATG x b.2) : ATG x (if P then a else b).2 := by
  split
  · exact ha
  · exact hb
theorem ag_iteM {x : Nat} {P : Prop} [Decidable P] {a b : Mu} (ha : ATG x a) (hb : ATG x b) : ATG x (if P then a else b) := by
  split
  · exact ha
  · exact hb
theorem ag_oc {x : Nat} {o : Option Nat} {a : Int32 × Mu} {f : Nat → Int32 × Mu} (ha : ATG x a.2) (hb : ∀ t, ATG x (f t).2) : ATG x (oc o a f).2 := by
  cases o with
  | none => exact ha
  | some t => exact hb t
theorem ag_ocM {x : Nat} {o : Option Nat} {a : Mu} {f : Nat → Mu} (ha : ATG x a) (hb : ∀ t, ATG x (f t)) : ATG x (oc o a f) := by
  cases o with
  | none => exact ha
  | some t => exact hb t
theorem ag_X8_readsForm {x : Nat} (μ : Mu)  (ch : Int32)  (hh : ATG x μ) : ATG x ((sp_X8_readsForm μ ch).2) := by
  unfold sp_X8_readsForm
  exact (ag_ite (ag_ite (ag_lf (ag_X8_passes μ (59 : Int32)  hh)) (ag_lf (ag_X8_passes μ (59 : Int32)  hh))) (ag_ite (ag_ite (ag_lf (ag_X8_takes μ 0  hh)) (ag_ite (ag_lf (ag_X8_passes ((sp_X8_takes μ  0).2) (59 : Int32)  (ag_X8_takes μ 0  hh))) (ag_lf (ag_X8_passes ((sp_X8_takes μ  0).2) (59 : Int32)  (ag_X8_takes μ 0  hh))))) (ag_ite (ag_ite (ag_lf (ag_X8_takes μ 0  hh)) (ag_ite (ag_lf (ag_pM (by decide) (ag_X8_passes ((sp_X8_takes μ  0).2) (44 : Int32)  (ag_X8_takes μ 0  hh)))) (ag_ite (ag_ite (ag_lf (ag_pM (by decide) (ag_X8_takes ((sp_X8_passes ((sp_X8_passes ((sp_X8_takes μ  0).2)  (44 : Int32)).2)  (45 : Int32)).2) 1  (ag_X8_passes ((sp_X8_passes ((sp_X8_takes μ  0).2)  (44 : Int32)).2) (45 : Int32)  (ag_X8_passes ((sp_X8_takes μ  0).2) (44 : Int32)  (ag_X8_takes μ 0  hh)))))) (ag_ite (ag_lf (ag_X8_passes (pM ((sp_X8_takes ((sp_X8_passes ((sp_X8_passes ((sp_X8_takes μ  0).2)  (44 : Int32)).2)  (45 : Int32)).2)  1).2) 13 1 (((sp_X8_takes ((sp_X8_passes ((sp_X8_passes ((sp_X8_takes μ  0).2)  (44 : Int32)).2)  (45 : Int32)).2)  1).2).1 13 1)) (59 : Int32)  (ag_pM (by decide) (ag_X8_takes ((sp_X8_passes ((sp_X8_passes ((sp_X8_takes μ  0).2)  (44 : Int32)).2)  (45 : Int32)).2) 1  (ag_X8_passes ((sp_X8_passes ((sp_X8_takes μ  0).2)  (44 : Int32)).2) (45 : Int32)  (ag_X8_passes ((sp_X8_takes μ  0).2) (44 : Int32)  (ag_X8_takes μ 0  hh))))))) (ag_lf (ag_X8_passes (pM ((sp_X8_takes ((sp_X8_passes ((sp_X8_passes ((sp_X8_takes μ  0).2)  (44 : Int32)).2)  (45 : Int32)).2)  1).2) 13 1 (((sp_X8_takes ((sp_X8_passes ((sp_X8_passes ((sp_X8_takes μ  0).2)  (44 : Int32)).2)  (45 : Int32)).2)  1).2).1 13 1)) (59 : Int32)  (ag_pM (by decide) (ag_X8_takes ((sp_X8_passes ((sp_X8_passes ((sp_X8_takes μ  0).2)  (44 : Int32)).2)  (45 : Int32)).2) 1  (ag_X8_passes ((sp_X8_passes ((sp_X8_takes μ  0).2)  (44 : Int32)).2) (45 : Int32)  (ag_X8_passes ((sp_X8_takes μ  0).2) (44 : Int32)  (ag_X8_takes μ 0  hh))))))))) (ag_ite (ag_lf (ag_pM (by decide) (ag_X8_takes ((sp_X8_passes ((sp_X8_passes ((sp_X8_takes μ  0).2)  (44 : Int32)).2)  (45 : Int32)).2) 1  (ag_X8_passes ((sp_X8_passes ((sp_X8_takes μ  0).2)  (44 : Int32)).2) (45 : Int32)  (ag_X8_passes ((sp_X8_takes μ  0).2) (44 : Int32)  (ag_X8_takes μ 0  hh)))))) (ag_ite (ag_lf (ag_X8_passes (pM ((sp_X8_takes ((sp_X8_passes ((sp_X8_passes ((sp_X8_takes μ  0).2)  (44 : Int32)).2)  (45 : Int32)).2)  1).2) 13 1 (-(((sp_X8_takes ((sp_X8_passes ((sp_X8_passes ((sp_X8_takes μ  0).2)  (44 : Int32)).2)  (45 : Int32)).2)  1).2).1 13 1))) (59 : Int32)  (ag_pM (by decide) (ag_X8_takes ((sp_X8_passes ((sp_X8_passes ((sp_X8_takes μ  0).2)  (44 : Int32)).2)  (45 : Int32)).2) 1  (ag_X8_passes ((sp_X8_passes ((sp_X8_takes μ  0).2)  (44 : Int32)).2) (45 : Int32)  (ag_X8_passes ((sp_X8_takes μ  0).2) (44 : Int32)  (ag_X8_takes μ 0  hh))))))) (ag_lf (ag_X8_passes (pM ((sp_X8_takes ((sp_X8_passes ((sp_X8_passes ((sp_X8_takes μ  0).2)  (44 : Int32)).2)  (45 : Int32)).2)  1).2) 13 1 (-(((sp_X8_takes ((sp_X8_passes ((sp_X8_passes ((sp_X8_takes μ  0).2)  (44 : Int32)).2)  (45 : Int32)).2)  1).2).1 13 1))) (59 : Int32)  (ag_pM (by decide) (ag_X8_takes ((sp_X8_passes ((sp_X8_passes ((sp_X8_takes μ  0).2)  (44 : Int32)).2)  (45 : Int32)).2) 1  (ag_X8_passes ((sp_X8_passes ((sp_X8_takes μ  0).2)  (44 : Int32)).2) (45 : Int32)  (ag_X8_passes ((sp_X8_takes μ  0).2) (44 : Int32)  (ag_X8_takes μ 0  hh)))))))))))) (ag_ite (ag_ite (ag_lf (ag_X8_takes μ 0  hh)) (ag_ite (ag_lf (ag_pM (by decide) (ag_X8_passes ((sp_X8_takes μ  0).2) (44 : Int32)  (ag_X8_takes μ 0  hh)))) (ag_ite (ag_lf (ag_pM (by decide) (ag_X8_takes ((sp_X8_passes ((sp_X8_takes μ  0).2)  (44 : Int32)).2) 1  (ag_X8_passes ((sp_X8_takes μ  0).2) (44 : Int32)  (ag_X8_takes μ 0  hh))))) (ag_ite (ag_lf (ag_X8_passes (pM ((sp_X8_takes ((sp_X8_passes ((sp_X8_takes μ  0).2)  (44 : Int32)).2)  1).2) 13 1 (((sp_X8_takes ((sp_X8_passes ((sp_X8_takes μ  0).2)  (44 : Int32)).2)  1).2).1 13 1)) (59 : Int32)  (ag_pM (by decide) (ag_X8_takes ((sp_X8_passes ((sp_X8_takes μ  0).2)  (44 : Int32)).2) 1  (ag_X8_passes ((sp_X8_takes μ  0).2) (44 : Int32)  (ag_X8_takes μ 0  hh)))))) (ag_lf (ag_X8_passes (pM ((sp_X8_takes ((sp_X8_passes ((sp_X8_takes μ  0).2)  (44 : Int32)).2)  1).2) 13 1 (((sp_X8_takes ((sp_X8_passes ((sp_X8_takes μ  0).2)  (44 : Int32)).2)  1).2).1 13 1)) (59 : Int32)  (ag_pM (by decide) (ag_X8_takes ((sp_X8_passes ((sp_X8_takes μ  0).2)  (44 : Int32)).2) 1  (ag_X8_passes ((sp_X8_takes μ  0).2) (44 : Int32)  (ag_X8_takes μ 0  hh)))))))))) (ag_ite (ag_ite (ag_lf (ag_X8_takes μ 0  hh)) (ag_ite (ag_lf (ag_pM (by decide) (ag_X8_passes ((sp_X8_takes μ  0).2) (44 : Int32)  (ag_X8_takes μ 0  hh)))) (ag_ite (ag_lf (ag_pM (by decide) (ag_X8_takes ((sp_X8_passes ((sp_X8_takes μ  0).2)  (44 : Int32)).2) 1  (ag_X8_passes ((sp_X8_takes μ  0).2) (44 : Int32)  (ag_X8_takes μ 0  hh))))) (ag_ite (ag_lf (ag_X8_passes (pM ((sp_X8_takes ((sp_X8_passes ((sp_X8_takes μ  0).2)  (44 : Int32)).2)  1).2) 13 1 (((sp_X8_takes ((sp_X8_passes ((sp_X8_takes μ  0).2)  (44 : Int32)).2)  1).2).1 13 1)) (59 : Int32)  (ag_pM (by decide) (ag_X8_takes ((sp_X8_passes ((sp_X8_takes μ  0).2)  (44 : Int32)).2) 1  (ag_X8_passes ((sp_X8_takes μ  0).2) (44 : Int32)  (ag_X8_takes μ 0  hh)))))) (ag_lf (ag_X8_passes (pM ((sp_X8_takes ((sp_X8_passes ((sp_X8_takes μ  0).2)  (44 : Int32)).2)  1).2) 13 1 (((sp_X8_takes ((sp_X8_passes ((sp_X8_takes μ  0).2)  (44 : Int32)).2)  1).2).1 13 1)) (59 : Int32)  (ag_pM (by decide) (ag_X8_takes ((sp_X8_passes ((sp_X8_takes μ  0).2)  (44 : Int32)).2) 1  (ag_X8_passes ((sp_X8_takes μ  0).2) (44 : Int32)  (ag_X8_takes μ 0  hh)))))))))) (ag_lf hh))))))
theorem ag_X8_alarms {x : Nat} (μ : Mu)  (n : Nat) (w : Int32)  (hh : ATG x μ) : ATG x ((sp_X8_alarms μ n w)) := by
  unfold sp_X8_alarms
  exact (ag_iteM (ag_iteM (ag_pM (by decide) hh) (ag_iteM (ag_pM (by decide) hh) (ag_pM (by decide) hh))) (ag_iteM (ag_pM (by decide) hh) (ag_iteM (ag_pM (by decide) hh) (ag_pM (by decide) hh))))
theorem ag_X8_baths {x : Nat} (μ : Mu)  (a : Int32) (b : Int32)  (hh : ATG x μ) : ATG x ((sp_X8_baths μ a b).2) := by
  unfold sp_X8_baths
  exact (ag_ite (ag_ite (ag_ite (ag_lf (ag_pM (by decide) hh)) (ag_lf hh)) (ag_lf hh)) (ag_lf hh))
theorem ag_X8_cuts {x : Nat} (μ : Mu)  (a : Int32) (b : Int32) (w : Int32)  (hh : ATG x μ) : ATG x ((sp_X8_cuts μ a b w).2) := by
  unfold sp_X8_cuts
  exact (ag_ite (ag_ite (ag_ite (ag_lf hh) (ag_lf (ag_pM (by decide) hh))) (ag_lf hh)) (ag_lf hh))
theorem ag_X8_reads {x : Nat} (μ : Mu)  (a : Int32)  (hh : ATG x μ) : ATG x ((sp_X8_reads μ a).2) := by
  unfold sp_X8_reads
  exact (ag_ite (ag_ite (ag_ite (ag_lf (ag_X8_alarms (pM (pM (pM (pM (pM (pM (pM (pM (pM (pM (pM (pM μ 8 (85 + 29 * a.toNatClampNeg + 20) (μ.1 8 (85 + 29 * a.toNatClampNeg + 21))) 8 (85 + 29 * a.toNatClampNeg + 21) (μ.1 8 (85 + 29 * a.toNatClampNeg + 22))) 8 (85 + 29 * a.toNatClampNeg + 22) (μ.1 8 (85 + 29 * a.toNatClampNeg + 23))) 8 (85 + 29 * a.toNatClampNeg + 23) (μ.1 8 (85 + 29 * a.toNatClampNeg + 24))) 8 (85 + 29 * a.toNatClampNeg + 24) (μ.1 8 (85 + 29 * a.toNatClampNeg + 25))) 8 (85 + 29 * a.toNatClampNeg + 25) (μ.1 8 (85 + 29 * a.toNatClampNeg + 26))) 8 (85 + 29 * a.toNatClampNeg + 26) (μ.1 8 (85 + 29 * a.toNatClampNeg + 27))) 8 (85 + 29 * a.toNatClampNeg + 27) (μ.1 8 (85 + 29 * a.toNatClampNeg + 28))) 8 (85 + 29 * a.toNatClampNeg + 19) (8 : Int32)) 8 (85 + 29 * a.toNatClampNeg + 28) (sp_X8_degrees (μ.1 8)  a.toNatClampNeg)) 8 (85 + 29 * a.toNatClampNeg + 19) (9 : Int32)) 8 (85 + 29 * a.toNatClampNeg + 18) ((μ.1 8 (85 + 29 * a.toNatClampNeg + 18)) + 1)) a.toNatClampNeg (sp_X8_degrees (μ.1 8)  a.toNatClampNeg)  (ag_pM (by decide) (ag_pM (by decide) (ag_pM (by decide) (ag_pM (by decide) (ag_pM (by decide) (ag_pM (by decide) (ag_pM (by decide) (ag_pM (by decide) (ag_pM (by decide) (ag_pM (by decide) (ag_pM (by decide) (ag_pM (by decide) hh)))))))))))))) (ag_lf (ag_X8_alarms (pM (pM (pM μ 8 (85 + 29 * a.toNatClampNeg + (20 + ((μ.1 8 (85 + 29 * a.toNatClampNeg + 19)).toNatClampNeg))) (sp_X8_degrees (μ.1 8)  a.toNatClampNeg)) 8 (85 + 29 * a.toNatClampNeg + 19) (nI ((μ.1 8 (85 + 29 * a.toNatClampNeg + 19)).toNatClampNeg + 1))) 8 (85 + 29 * a.toNatClampNeg + 18) ((μ.1 8 (85 + 29 * a.toNatClampNeg + 18)) + 1)) a.toNatClampNeg (sp_X8_degrees (μ.1 8)  a.toNatClampNeg)  (ag_pM (by decide) (ag_pM (by decide) (ag_pM (by decide) hh)))))) (ag_lf hh)) (ag_lf hh))
theorem ag_lp_X8_scans_42 {x : Nat} (μ : Mu)   (hh : ATG x μ) (f : Nat) : ∀ (v0 : Int32) (k : Nat), ATG x ((lp_X8_scans_42 μ  f v0 k).2) := by
  induction f with
  | zero => intro v0 k; exact hh
  | succ f ih =>
    intro v0 k
    unfold lp_X8_scans_42
    exact (ag_ite (ag_lf hh) (ag_ite (ih _ _) (ag_ite (ag_lf (ag_X8_reads (pM μ 8 9 ((10 * (((v0 + (nI k)) - (v0 + (nI k)) / 12 * 12) / 3)) + (((v0 + (nI k)) - (v0 + (nI k)) / 12 * 12) - ((v0 + (nI k)) - (v0 + (nI k)) / 12 * 12) / 3 * 3))) (sp_X8_inside (μ.1 8)  ((10 * (((v0 + (nI k)) - (v0 + (nI k)) / 12 * 12) / 3)) + (((v0 + (nI k)) - (v0 + (nI k)) / 12 * 12) - ((v0 + (nI k)) - (v0 + (nI k)) / 12 * 12) / 3 * 3)))  (ag_pM (by decide) hh))) (ag_lf (ag_X8_reads (pM μ 8 9 ((10 * (((v0 + (nI k)) - (v0 + (nI k)) / 12 * 12) / 3)) + (((v0 + (nI k)) - (v0 + (nI k)) / 12 * 12) - ((v0 + (nI k)) - (v0 + (nI k)) / 12 * 12) / 3 * 3))) (sp_X8_inside (μ.1 8)  ((10 * (((v0 + (nI k)) - (v0 + (nI k)) / 12 * 12) / 3)) + (((v0 + (nI k)) - (v0 + (nI k)) / 12 * 12) - ((v0 + (nI k)) - (v0 + (nI k)) / 12 * 12) / 3 * 3)))  (ag_pM (by decide) hh))))))
theorem ag_X8_scans {x : Nat} (μ : Mu)    (hh : ATG x μ) : ATG x ((sp_X8_scans μ ).2) := by
  unfold sp_X8_scans
  exact (ag_ite (ag_lp_X8_scans_42 _ hh 13 (11 : Int32) 1) (ag_lp_X8_scans_42 _ hh 13 ((3 * ((μ.1 8 9) / 10)) + ((μ.1 8 9) - (μ.1 8 9) / 10 * 10)) 1))
theorem ag_X8_does {x : Nat} (μ : Mu)  (ch : Int32)  (hh : ATG x μ) : ATG x ((sp_X8_does μ ch).2) := by
  unfold sp_X8_does
  exact (ag_ite (ag_lf (ag_X8_cuts μ (μ.1 13 0) (μ.1 13 1) (1 : Int32)  hh)) (ag_ite (ag_lf (ag_X8_cuts μ (μ.1 13 0) (μ.1 13 1) (0 : Int32)  hh)) (ag_ite (ag_lf (ag_X8_reads μ (μ.1 13 0)  hh)) (ag_ite (ag_lf (ag_X8_baths μ (μ.1 13 0) (μ.1 13 1)  hh)) (ag_lf (ag_X8_scans μ  hh))))))
theorem ag_X8_doesNext {x : Nat} (μ : Mu)   (hA : AT μ) (hlt : (μ.1 7 2).toNatClampNeg < 60) (hx : x ≤ (μ.1 7 2).toNatClampNeg + 1) : ATG x ((sp_X8_doesNext μ ).2) := by
  unfold sp_X8_doesNext
  exact (ag_ite (ag_lf (ag_X8_readsForm (pM μ 7 2 (nI ((μ.1 7 2).toNatClampNeg + 1))) (μ.1 12 ((μ.1 7 2).toNatClampNeg))  (ag_72 hA (by omega) hx))) (ag_ite (ag_ite (ag_lf (ag_X8_does ((sp_X8_readsForm (pM μ 7 2 (nI ((μ.1 7 2).toNatClampNeg + 1)))  (μ.1 12 ((μ.1 7 2).toNatClampNeg))).2) (μ.1 12 ((μ.1 7 2).toNatClampNeg))  (ag_X8_readsForm (pM μ 7 2 (nI ((μ.1 7 2).toNatClampNeg + 1))) (μ.1 12 ((μ.1 7 2).toNatClampNeg))  (ag_72 hA (by omega) hx)))) (ag_lf (ag_X8_does ((sp_X8_readsForm (pM μ 7 2 (nI ((μ.1 7 2).toNatClampNeg + 1)))  (μ.1 12 ((μ.1 7 2).toNatClampNeg))).2) (μ.1 12 ((μ.1 7 2).toNatClampNeg))  (ag_X8_readsForm (pM μ 7 2 (nI ((μ.1 7 2).toNatClampNeg + 1))) (μ.1 12 ((μ.1 7 2).toNatClampNeg))  (ag_72 hA (by omega) hx))))) (ag_ite (ag_ite (ag_ite (ag_lf (ag_X8_does ((sp_X8_readsForm (pM μ 7 2 (nI ((μ.1 7 2).toNatClampNeg + 1)))  (μ.1 12 ((μ.1 7 2).toNatClampNeg))).2) (μ.1 12 ((μ.1 7 2).toNatClampNeg))  (ag_X8_readsForm (pM μ 7 2 (nI ((μ.1 7 2).toNatClampNeg + 1))) (μ.1 12 ((μ.1 7 2).toNatClampNeg))  (ag_72 hA (by omega) hx)))) (ag_lf (ag_X8_does ((sp_X8_readsForm (pM μ 7 2 (nI ((μ.1 7 2).toNatClampNeg + 1)))  (μ.1 12 ((μ.1 7 2).toNatClampNeg))).2) (μ.1 12 ((μ.1 7 2).toNatClampNeg))  (ag_X8_readsForm (pM μ 7 2 (nI ((μ.1 7 2).toNatClampNeg + 1))) (μ.1 12 ((μ.1 7 2).toNatClampNeg))  (ag_72 hA (by omega) hx))))) (ag_lf (ag_X8_readsForm (pM μ 7 2 (nI ((μ.1 7 2).toNatClampNeg + 1))) (μ.1 12 ((μ.1 7 2).toNatClampNeg))  (ag_72 hA (by omega) hx)))) (ag_ite (ag_ite (ag_ite (ag_lf (ag_X8_does ((sp_X8_readsForm (pM μ 7 2 (nI ((μ.1 7 2).toNatClampNeg + 1)))  (μ.1 12 ((μ.1 7 2).toNatClampNeg))).2) (μ.1 12 ((μ.1 7 2).toNatClampNeg))  (ag_X8_readsForm (pM μ 7 2 (nI ((μ.1 7 2).toNatClampNeg + 1))) (μ.1 12 ((μ.1 7 2).toNatClampNeg))  (ag_72 hA (by omega) hx)))) (ag_lf (ag_X8_does ((sp_X8_readsForm (pM μ 7 2 (nI ((μ.1 7 2).toNatClampNeg + 1)))  (μ.1 12 ((μ.1 7 2).toNatClampNeg))).2) (μ.1 12 ((μ.1 7 2).toNatClampNeg))  (ag_X8_readsForm (pM μ 7 2 (nI ((μ.1 7 2).toNatClampNeg + 1))) (μ.1 12 ((μ.1 7 2).toNatClampNeg))  (ag_72 hA (by omega) hx))))) (ag_lf (ag_X8_readsForm (pM μ 7 2 (nI ((μ.1 7 2).toNatClampNeg + 1))) (μ.1 12 ((μ.1 7 2).toNatClampNeg))  (ag_72 hA (by omega) hx)))) (ag_ite (ag_ite (ag_lf (ag_X8_does ((sp_X8_readsForm (pM μ 7 2 (nI ((μ.1 7 2).toNatClampNeg + 1)))  (μ.1 12 ((μ.1 7 2).toNatClampNeg))).2) (μ.1 12 ((μ.1 7 2).toNatClampNeg))  (ag_X8_readsForm (pM μ 7 2 (nI ((μ.1 7 2).toNatClampNeg + 1))) (μ.1 12 ((μ.1 7 2).toNatClampNeg))  (ag_72 hA (by omega) hx)))) (ag_lf (ag_X8_does ((sp_X8_readsForm (pM μ 7 2 (nI ((μ.1 7 2).toNatClampNeg + 1)))  (μ.1 12 ((μ.1 7 2).toNatClampNeg))).2) (μ.1 12 ((μ.1 7 2).toNatClampNeg))  (ag_X8_readsForm (pM μ 7 2 (nI ((μ.1 7 2).toNatClampNeg + 1))) (μ.1 12 ((μ.1 7 2).toNatClampNeg))  (ag_72 hA (by omega) hx))))) (ag_lf (ag_X8_readsForm (pM μ 7 2 (nI ((μ.1 7 2).toNatClampNeg + 1))) (μ.1 12 ((μ.1 7 2).toNatClampNeg))  (ag_72 hA (by omega) hx))))))))
theorem ag_next {m : Mu} {v : Int32} (hA : AT m) (hlt : (m.1 7 2).toNatClampNeg < 60) : (m.1 7 2).toNatClampNeg + 1 ≤ ((pM (sp_X8_doesNext m).2 7 3 v).1 7 2).toNatClampNeg := by
  rw [e73]
  exact (ag_X8_doesNext m hA hlt (Nat.le_refl _)).2
theorem at0_c {m : Mu} : ((pM m 7 2 (0 : Int32)).1 7 2).toNatClampNeg = 0 := by rw [e72]; rfl
def lp_X8_faulty_83 (μ : Mu)   : Nat → Int32 → Nat → Mu → Int32 × Mu
  | 0, _, _, μ3 => (0, μ3)
  | f + 1, v3, k3, μ3 =>
    if (259 : Int32) ≤ nI k3 then
      (v3, μ3)
    else
      lp_X8_faulty_83 μ  f v3 (k3 + 1) (pM μ3 8 k3 ((μ3).1 10 k3))
def lp_X8_faulty_35 (μ : Mu)   : Nat → Int32 → Mu → Int32 × Mu
  | 0, _, μ2 => (0, μ2)
  | f + 1, v, μ2 =>
    if (nI ((μ2.1 7 1).toNatClampNeg) : Int32) ≤ nI ((μ2.1 7 2).toNatClampNeg) then
      lp_X8_faulty_83 μ  260 v 0 μ2
    else
      if (v : Int32) = (-2000000004) then
        if ((sp_X8_doesNext μ2  ).1 : Int32) ≤ 0 then
          lp_X8_faulty_35 μ  f v (pM ((sp_X8_doesNext μ2  ).2) 7 3 ((sp_X8_doesNext μ2  ).1))
        else
          lp_X8_faulty_35 μ  f (nI ((μ2.1 7 2).toNatClampNeg)) (pM ((sp_X8_doesNext μ2  ).2) 7 3 ((sp_X8_doesNext μ2  ).1))
      else
        lp_X8_faulty_83 μ  260 v 0 μ2
def lp_X8_faulty_2 (μ : Mu)   : Nat → Nat → Mu → Int32 × Mu
  | 0, _, μ1 => (0, μ1)
  | f + 1, k, μ1 =>
    if (259 : Int32) ≤ nI k then
      lp_X8_faulty_35 μ  62 ((-2000000004) : Int32) (pM μ1 7 2 (0 : Int32))
    else
      lp_X8_faulty_2 μ  f (k + 1) (pM μ1 10 k ((μ1).1 8 k))
def sp_X8_faulty (μ : Mu)   : Int32 × Mu :=
  lp_X8_faulty_2 μ  260 0 μ
set_option maxHeartbeats 4000000 in
set_option maxRecDepth 100000 in
theorem k_X8_faulty (l : Launch) (E : En) (μ : Mu)   (hh : RGA μ) (hty : ni 61 (μ.1 7 1)) : MtI l yX8_faulty cX8_faulty 3 .int ({ frames := 15, cells := 0, slots := 0, locals := 361 }) [.ref (E.1 (232))] E μ (sp_X8_faulty μ ) := by
  refine mt_of (by decide +kernel) (Nat.le_of_ble_eq_true rfl) ?_
  intro p e s m args below meth c ls hf hr hlocks hl hw
  have hx := hf.1
  have hb := hf.2.1
  have hl : lv_has ls 3 [(0, .ref (E.1 (232)))] := hl
  refine lv_iconst (v := 0) hx hb dX8_faulty_0 (by decide) ?_
  refine lv_istore_n (lv' := [(1, .int 0), (0, .ref (E.1 (232)))]) hx hb dX8_faulty_1 rfl hl (by decide) rfl (fun ls hl => ?_)
  have key_2 : ∀ (f : Nat) (k : Nat) (μ1 : Mu), k + f = 260 → k ≤ 259 → RGA μ1 → ni 61 (μ1.1 7 1) → sp_X8_faulty μ  = lp_X8_faulty_2 μ  f k μ1 → ∀ (ls : Array Slot) (H : Heap) (locs : List Loc), lv_has ls 3 [(0, .ref (E.1 (232))), (1, .int (nI k))] → Wk E μ1 s H locs → W p l e ({ frames := 15, cells := 0, slots := 0, locals := 361 }) s m args below meth c H locs 0 0 (MQ below (va_Qi (fun r u => r = ((sp_X8_faulty μ )).1 ∧ u = ((sp_X8_faulty μ )).2) (fun u t => WdU E u t) (inE E)) args s 0 0 (inE E)) (F0 m 2 ls []) := by
    intro f
    induction f with
    | zero => intro k μ1 h1 h2 hg1 hy1 hq ls H locs hl hw; exfalso; omega
    | succ f ih =>
      intro k μ1 h1 h2 hg1 hy1 hq ls H locs hl hw
      refine lv_iload_n hx hb dX8_faulty_2 rfl (lv_at hl 1 rfl) ?_
      refine lv_sipush (v := 259) hx hb dX8_faulty_3 (by decide) ?_
      refine lv_icmp_ge (tgt := 27) hx hb dX8_faulty_6 (by decide) (fun c1 => ?_) (fun c1 => ?_)
      · have c1n : 259 ≤ k := by have q := (nI_leI (a := 259) (b := k) (by omega) (by omega)); first | exact q.mp c1 | exact fun z => c1 (q.mpr z)
        refine lv_ldc hx hb hf.2.2.2.1 (hf.2.2.2.2 _ q242) dX8_faulty_27 ?_
        refine lv_istore_n (lv' := [(1, .int (-2000000004)), (0, .ref (E.1 (232)))]) hx hb dX8_faulty_29 rfl hl (by decide) rfl (fun ls hl => ?_)
        refine lv_aload_n hx hb dX8_faulty_30 rfl (lv_at hl 1 rfl) ?_
        refine lv_iconst (v := 0) hx hb dX8_faulty_31 (by decide) ?_
        refine p_f hw hf (by decide) (c_R E _) rfl inlX8 tyX8_ok nmX8 7 (by decide) rfl q993 rfl rfl rfl (Nat.le_of_ble_eq_true rfl) (s_R_7 E _ _) dX8_faulty_32 (fun H locs hw => ?_)
        have key_35 : ∀ (f : Nat) (v : Int32) (μ2 : Mu), 62 ≤ (μ2.1 7 2).toNatClampNeg + f → RGA μ2 → AT μ2 → sp_X8_faulty μ  = lp_X8_faulty_35 μ  f v μ2 → ∀ (ls : Array Slot) (H : Heap) (locs : List Loc), lv_has ls 3 [(0, .ref (E.1 (232))), (1, .int (v))] → Wk E μ2 s H locs → W p l e ({ frames := 15, cells := 0, slots := 0, locals := 361 }) s m args below meth c H locs 0 0 (MQ below (va_Qi (fun r u => r = ((sp_X8_faulty μ )).1 ∧ u = ((sp_X8_faulty μ )).2) (fun u t => WdU E u t) (inE E)) args s 0 0 (inE E)) (F0 m 35 ls []) := by
          intro f
          induction f with
          | zero => intro v μ2 h1 hg2 ha2 hq ls H locs hl hw; exfalso; have q := ha2.2.2; omega
          | succ f ih =>
            intro v μ2 h1 hg2 ha2 hq ls H locs hl hw
            have ha21 := ha2.1.2
            have ha22 := ha2.2.2
            refine lv_aload_n hx hb dX8_faulty_35 rfl (lv_at hl 0 rfl) ?_
            refine g_f hw hf (by decide) (c_R E _) rfl inlX8 7 (by decide) rfl q993 rfl dX8_faulty_36 ?_
            have hb2 := ha2.2.2
            refine fold_i (show (μ2).1 7 2 = nI ((μ2.1 7 2).toNatClampNeg) from ha2.2.1) ?_
            refine lv_aload_n hx hb dX8_faulty_39 rfl (lv_at hl 0 rfl) ?_
            refine g_f hw hf (by decide) (c_R E _) rfl inlX8 6 (by decide) rfl q896 rfl dX8_faulty_40 ?_
            have hb3 := ha2.1.2
            refine fold_i (show (μ2).1 7 1 = nI ((μ2.1 7 1).toNatClampNeg) from ha2.1.1) ?_
            refine lv_icmp_ge (tgt := 81) hx hb dX8_faulty_43 (by decide) (fun c4 => ?_) (fun c4 => ?_)
            · have c4n : ((μ2.1 7 1).toNatClampNeg) ≤ ((μ2.1 7 2).toNatClampNeg) := by have q := (nI_leI (a := ((μ2.1 7 1).toNatClampNeg)) (b := ((μ2.1 7 2).toNatClampNeg)) (by omega) (by omega)); first | exact q.mp c4 | exact fun z => c4 (q.mpr z)
              refine lv_iconst (v := 0) hx hb dX8_faulty_81 (by decide) ?_
              refine lv_istore_n (lv' := [(2, .int 0), (0, .ref (E.1 (232))), (1, .int (v))]) hx hb dX8_faulty_82 rfl hl (by decide) rfl (fun ls hl => ?_)
              have key_83 : ∀ (f : Nat) (v3 : Int32) (k3 : Nat) (μ3 : Mu), k3 + f = 260 → k3 ≤ 259 → sp_X8_faulty μ  = lp_X8_faulty_83 μ  f v3 k3 μ3 → ∀ (ls : Array Slot) (H : Heap) (locs : List Loc), lv_has ls 3 [(0, .ref (E.1 (232))), (1, .int (v3)), (2, .int (nI k3))] → Wk E μ3 s H locs → W p l e ({ frames := 15, cells := 0, slots := 0, locals := 361 }) s m args below meth c H locs 0 0 (MQ below (va_Qi (fun r u => r = ((sp_X8_faulty μ )).1 ∧ u = ((sp_X8_faulty μ )).2) (fun u t => WdU E u t) (inE E)) args s 0 0 (inE E)) (F0 m 83 ls []) := by
                intro f
                induction f with
                | zero => intro v3 k3 μ3 h1 h2 hq ls H locs hl hw; exfalso; omega
                | succ f ih =>
                  intro v3 k3 μ3 h1 h2 hq ls H locs hl hw
                  refine lv_iload_n hx hb dX8_faulty_83 rfl (lv_at hl 2 rfl) ?_
                  refine lv_sipush (v := 259) hx hb dX8_faulty_84 (by decide) ?_
                  refine lv_icmp_ge (tgt := 108) hx hb dX8_faulty_87 (by decide) (fun c5 => ?_) (fun c5 => ?_)
                  · have c5n : 259 ≤ k3 := by have q := (nI_leI (a := 259) (b := k3) (by omega) (by omega)); first | exact q.mp c5 | exact fun z => c5 (q.mpr z)
                    refine lv_iload_n hx hb dX8_faulty_108 rfl (lv_at hl 1 rfl) ?_
                    exact e_i hf hr hlocks hw rfl ((hq).trans ((if_pos c5).trans rfl)) dX8_faulty_109
                  · have c5n : ¬ 259 ≤ k3 := by have q := (nI_leI (a := 259) (b := k3) (by omega) (by omega)); first | exact q.mp c5 | exact fun z => c5 (q.mpr z)
                    refine lv_aload_n hx hb dX8_faulty_90 rfl (lv_at hl 0 rfl) ?_
                    refine g_f hw hf (by decide) (c_R E _) rfl inlX8 0 (by decide) rfl q90 rfl dX8_faulty_91 ?_
                    refine lv_iload_n hx hb dX8_faulty_94 rfl (lv_at hl 2 rfl) ?_
                    refine lv_aload_n hx hb dX8_faulty_95 rfl (lv_at hl 0 rfl) ?_
                    refine g_f hw hf (by decide) (c_R E _) rfl inlX8 2 (by decide) rfl q92 rfl dX8_faulty_96 ?_
                    refine lv_iload_n hx hb dX8_faulty_99 rfl (lv_at hl 2 rfl) ?_
                    refine g_a hw hf (by decide) (c_Ra E _) (vp_in_nI (show k3 < 259 from (by omega)) (by decide)) (tr_at (y := k3) (by omega) (nI_clamp (Nat.lt_trans (show k3 < 259 from (by omega)) (by decide)))) dX8_faulty_100 ?_
                    refine p_a hw hf (by decide) (c_Rs E _) (vp_in_nI (show k3 < 259 from (by omega)) (by decide)) (by rw [show (nI k3).toNatClampNeg = k3 from (nI_clamp (Nat.lt_trans (show k3 < 259 from (by omega)) (by decide)))]; exact (s_Rs E _ (by omega) _)) dX8_faulty_101 (fun H locs hw => ?_)
                    refine lv_iinc (v := nI (k3 + 1)) (lv' := [(2, .int (nI (k3 + 1))), (0, .ref (E.1 (232))), (1, .int (v3))]) hx hb dX8_faulty_102 hl (k := 2) rfl (nI_1 _) (by decide) rfl (fun ls hl => ?_)
                    refine lv_goto (tgt := 83) hx hb dX8_faulty_105 (by decide) ?_
                    exact ih v3 (k3 + 1) (pM μ3 8 k3 ((μ3).1 10 k3)) (by omega) (by omega) (((hq).trans ((if_neg c5).trans rfl))) _ _ _ (lv_sub hl [1, 2, 0] rfl) hw
              exact key_83 260 v 0 μ2 (by omega) (by omega) (((hq).trans ((if_pos c4).trans rfl))) _ _ _ (lv_sub hl [1, 2, 0] rfl) hw
            · have c4n : ¬ ((μ2.1 7 1).toNatClampNeg) ≤ ((μ2.1 7 2).toNatClampNeg) := by have q := (nI_leI (a := ((μ2.1 7 1).toNatClampNeg)) (b := ((μ2.1 7 2).toNatClampNeg)) (by omega) (by omega)); first | exact q.mp c4 | exact fun z => c4 (q.mpr z)
              refine lv_iload_n hx hb dX8_faulty_46 rfl (lv_at hl 1 rfl) ?_
              refine lv_ldc hx hb hf.2.2.2.1 (hf.2.2.2.2 _ q242) dX8_faulty_47 ?_
              refine lv_icmp_ne (tgt := 81) hx hb dX8_faulty_49 (by decide) (fun c6 => ?_) (fun c6 => ?_)
              · refine lv_iconst (v := 0) hx hb dX8_faulty_81 (by decide) ?_
                refine lv_istore_n (lv' := [(2, .int 0), (0, .ref (E.1 (232))), (1, .int (v))]) hx hb dX8_faulty_82 rfl hl (by decide) rfl (fun ls hl => ?_)
                have key_83 : ∀ (f : Nat) (v3 : Int32) (k3 : Nat) (μ3 : Mu), k3 + f = 260 → k3 ≤ 259 → sp_X8_faulty μ  = lp_X8_faulty_83 μ  f v3 k3 μ3 → ∀ (ls : Array Slot) (H : Heap) (locs : List Loc), lv_has ls 3 [(0, .ref (E.1 (232))), (1, .int (v3)), (2, .int (nI k3))] → Wk E μ3 s H locs → W p l e ({ frames := 15, cells := 0, slots := 0, locals := 361 }) s m args below meth c H locs 0 0 (MQ below (va_Qi (fun r u => r = ((sp_X8_faulty μ )).1 ∧ u = ((sp_X8_faulty μ )).2) (fun u t => WdU E u t) (inE E)) args s 0 0 (inE E)) (F0 m 83 ls []) := by
                  intro f
                  induction f with
                  | zero => intro v3 k3 μ3 h1 h2 hq ls H locs hl hw; exfalso; omega
                  | succ f ih =>
                    intro v3 k3 μ3 h1 h2 hq ls H locs hl hw
                    refine lv_iload_n hx hb dX8_faulty_83 rfl (lv_at hl 2 rfl) ?_
                    refine lv_sipush (v := 259) hx hb dX8_faulty_84 (by decide) ?_
                    refine lv_icmp_ge (tgt := 108) hx hb dX8_faulty_87 (by decide) (fun c7 => ?_) (fun c7 => ?_)
                    · have c7n : 259 ≤ k3 := by have q := (nI_leI (a := 259) (b := k3) (by omega) (by omega)); first | exact q.mp c7 | exact fun z => c7 (q.mpr z)
                      refine lv_iload_n hx hb dX8_faulty_108 rfl (lv_at hl 1 rfl) ?_
                      exact e_i hf hr hlocks hw rfl ((hq).trans ((if_pos c7).trans rfl)) dX8_faulty_109
                    · have c7n : ¬ 259 ≤ k3 := by have q := (nI_leI (a := 259) (b := k3) (by omega) (by omega)); first | exact q.mp c7 | exact fun z => c7 (q.mpr z)
                      refine lv_aload_n hx hb dX8_faulty_90 rfl (lv_at hl 0 rfl) ?_
                      refine g_f hw hf (by decide) (c_R E _) rfl inlX8 0 (by decide) rfl q90 rfl dX8_faulty_91 ?_
                      refine lv_iload_n hx hb dX8_faulty_94 rfl (lv_at hl 2 rfl) ?_
                      refine lv_aload_n hx hb dX8_faulty_95 rfl (lv_at hl 0 rfl) ?_
                      refine g_f hw hf (by decide) (c_R E _) rfl inlX8 2 (by decide) rfl q92 rfl dX8_faulty_96 ?_
                      refine lv_iload_n hx hb dX8_faulty_99 rfl (lv_at hl 2 rfl) ?_
                      refine g_a hw hf (by decide) (c_Ra E _) (vp_in_nI (show k3 < 259 from (by omega)) (by decide)) (tr_at (y := k3) (by omega) (nI_clamp (Nat.lt_trans (show k3 < 259 from (by omega)) (by decide)))) dX8_faulty_100 ?_
                      refine p_a hw hf (by decide) (c_Rs E _) (vp_in_nI (show k3 < 259 from (by omega)) (by decide)) (by rw [show (nI k3).toNatClampNeg = k3 from (nI_clamp (Nat.lt_trans (show k3 < 259 from (by omega)) (by decide)))]; exact (s_Rs E _ (by omega) _)) dX8_faulty_101 (fun H locs hw => ?_)
                      refine lv_iinc (v := nI (k3 + 1)) (lv' := [(2, .int (nI (k3 + 1))), (0, .ref (E.1 (232))), (1, .int (v3))]) hx hb dX8_faulty_102 hl (k := 2) rfl (nI_1 _) (by decide) rfl (fun ls hl => ?_)
                      refine lv_goto (tgt := 83) hx hb dX8_faulty_105 (by decide) ?_
                      exact ih v3 (k3 + 1) (pM μ3 8 k3 ((μ3).1 10 k3)) (by omega) (by omega) (((hq).trans ((if_neg c7).trans rfl))) _ _ _ (lv_sub hl [1, 2, 0] rfl) hw
                exact key_83 260 v 0 μ2 (by omega) (by omega) (((hq).trans ((if_neg c4).trans ((if_neg c6).trans rfl)))) _ _ _ (lv_sub hl [1, 2, 0] rfl) hw
              · refine lv_aload_n hx hb dX8_faulty_52 rfl (lv_at hl 0 rfl) ?_
                refine g_f hw hf (by decide) (c_R E _) rfl inlX8 7 (by decide) rfl q993 rfl dX8_faulty_53 ?_
                refine fold_i (show (μ2).1 7 2 = nI ((μ2.1 7 2).toNatClampNeg) from ha2.2.1) ?_
                refine lv_istore_n (lv' := [(2, .int (nI ((μ2.1 7 2).toNatClampNeg))), (0, .ref (E.1 (232))), (1, .int (v))]) hx hb dX8_faulty_56 rfl hl (by decide) rfl (fun ls hl => ?_)
                refine lv_aload_n hx hb dX8_faulty_57 rfl (lv_at hl 1 rfl) ?_
                refine lv_aload_n hx hb dX8_faulty_58 rfl (lv_at hl 1 rfl) ?_
                refine c_i hw (run_V (As := []) (rest := [.ref (E.1 (232))]) (np := 0) hf hw (k_X8_doesNext l E _    hg2 ha2 (by omega)) ⟨gl_V q994 q995 q996 q5 q997, by decide +kernel⟩ ⟨rfl, rfl, Nat.le_of_ble_eq_true rfl, Nat.le_of_ble_eq_true rfl⟩ (by decide) (c_R E _) rfl rfl hl.1 rfl (Nat.le_of_ble_eq_true rfl) dX8_faulty_59 ⟨Nat.zero_le _, Nat.zero_le _⟩) (fun H locs hw => ?_)
                refine p_f hw hf (by decide) (c_R E _) rfl inlX8 tyX8_ok nmX8 8 (by decide) rfl q988 rfl rfl rfl (Nat.le_of_ble_eq_true rfl) (s_R_8 E _ _) dX8_faulty_62 (fun H locs hw => ?_)
                refine lv_aload_n hx hb dX8_faulty_65 rfl (lv_at hl 1 rfl) ?_
                refine g_f hw hf (by decide) (c_R E _) rfl inlX8 8 (by decide) rfl q988 (congrArg (fun z => some (Value.int z)) (show _ = (sp_X8_doesNext μ2  ).1 from (by first | (simp [pM, pJ, upM, upJ, sF, tN, tD, tR, tk_M, tk_K, tk_0, tk_1, tk_2, tk_3, tk_4, tk_5, tk_6, tk_7, tk_8, tk_9, tk_10, tk_o, ms_0_0, ms_0_1, ms_0_2, ms_0_3, ms_0_4, ms_0_5, ms_0_6, ms_0_7, ms_0_8, ms_0_9, ms_0_10, ms_1_0, ms_1_1, ms_1_2, ms_1_3, ms_1_4, ms_1_5, ms_1_6, ms_1_7, ms_1_8, ms_1_9, ms_1_10, ms_w, ms_r, ms_d, ms_M, ms_6, ms_K, pC_row]; done) | (simp (disch := (first | omega | (simp only [tN, tD, tR, sF]; omega))) only [pM, pJ, upM_s, upM_k, upM_c, upJ_s, upJ_k, upJ_c, tk_M, tk_K, tk_0, tk_1, tk_2, tk_3, tk_4, tk_5, tk_6, tk_7, tk_8, tk_9, tk_10, tk_o, ms_0_0, ms_0_1, ms_0_2, ms_0_3, ms_0_4, ms_0_5, ms_0_6, ms_0_7, ms_0_8, ms_0_9, ms_0_10, ms_1_0, ms_1_1, ms_1_2, ms_1_3, ms_1_4, ms_1_5, ms_1_6, ms_1_7, ms_1_8, ms_1_9, ms_1_10, ms_w, ms_r, ms_d, ms_M, ms_6, ms_K, pC_row])))) dX8_faulty_66 ?_
                refine lv_if_le (tgt := 76) hx hb dX8_faulty_69 (by decide) (fun c8 => ?_) (fun c8 => ?_)
                · refine lv_iload_n hx hb dX8_faulty_76 rfl (lv_at hl 2 rfl) ?_
                  refine lv_istore_n (lv' := [(1, .int (v)), (2, .int (nI ((μ2.1 7 2).toNatClampNeg))), (0, .ref (E.1 (232)))]) hx hb dX8_faulty_77 rfl hl (by decide) rfl (fun ls hl => ?_)
                  refine lv_goto (tgt := 35) hx hb dX8_faulty_78 (by decide) ?_
                  exact ih v (pM ((sp_X8_doesNext μ2  ).2) 7 3 ((sp_X8_doesNext μ2  ).1)) (by have q := ag_next (v := (sp_X8_doesNext μ2).1) ha2 (by omega); omega) (rga_pM (by decide) (rga_X8_doesNext μ2 hg2)) (at_73 (atp_X8_doesNext μ2 (by omega) ha2)) (((hq).trans ((if_neg c4).trans ((if_pos c6).trans ((if_pos c8).trans rfl))))) _ _ _ (lv_sub hl [2, 0] rfl) hw
                · refine lv_iload_n hx hb dX8_faulty_72 rfl (lv_at hl 0 rfl) ?_
                  refine lv_goto (tgt := 77) hx hb dX8_faulty_73 (by decide) ?_
                  refine lv_istore_n (lv' := [(1, .int (nI ((μ2.1 7 2).toNatClampNeg))), (2, .int (nI ((μ2.1 7 2).toNatClampNeg))), (0, .ref (E.1 (232)))]) hx hb dX8_faulty_77 rfl hl (by decide) rfl (fun ls hl => ?_)
                  refine lv_goto (tgt := 35) hx hb dX8_faulty_78 (by decide) ?_
                  exact ih (nI ((μ2.1 7 2).toNatClampNeg)) (pM ((sp_X8_doesNext μ2  ).2) 7 3 ((sp_X8_doesNext μ2  ).1)) (by have q := ag_next (v := (sp_X8_doesNext μ2).1) ha2 (by omega); omega) (rga_pM (by decide) (rga_X8_doesNext μ2 hg2)) (at_73 (atp_X8_doesNext μ2 (by omega) ha2)) (((hq).trans ((if_neg c4).trans ((if_pos c6).trans ((if_neg c8).trans rfl))))) _ _ _ (lv_sub hl [2, 0] rfl) hw
        exact key_35 62 ((-2000000004) : Int32) (pM μ1 7 2 (0 : Int32)) (by rw [at0_c]; omega) (rga_pM (by decide) hg1) (at_70 hy1) (((hq).trans ((if_pos c1).trans rfl))) _ _ _ (lv_sub hl [1, 0] rfl) hw
      · have c1n : ¬ 259 ≤ k := by have q := (nI_leI (a := 259) (b := k) (by omega) (by omega)); first | exact q.mp c1 | exact fun z => c1 (q.mpr z)
        refine lv_aload_n hx hb dX8_faulty_9 rfl (lv_at hl 0 rfl) ?_
        refine g_f hw hf (by decide) (c_R E _) rfl inlX8 2 (by decide) rfl q92 rfl dX8_faulty_10 ?_
        refine lv_iload_n hx hb dX8_faulty_13 rfl (lv_at hl 1 rfl) ?_
        refine lv_aload_n hx hb dX8_faulty_14 rfl (lv_at hl 0 rfl) ?_
        refine g_f hw hf (by decide) (c_R E _) rfl inlX8 0 (by decide) rfl q90 rfl dX8_faulty_15 ?_
        refine lv_iload_n hx hb dX8_faulty_18 rfl (lv_at hl 1 rfl) ?_
        refine g_a hw hf (by decide) (c_Rs E _) (vp_in_nI (show k < 259 from (by omega)) (by decide)) (tr_at (y := k) (by omega) (nI_clamp (Nat.lt_trans (show k < 259 from (by omega)) (by decide)))) dX8_faulty_19 ?_
        refine p_a hw hf (by decide) (c_Ra E _) (vp_in_nI (show k < 259 from (by omega)) (by decide)) (by rw [show (nI k).toNatClampNeg = k from (nI_clamp (Nat.lt_trans (show k < 259 from (by omega)) (by decide)))]; exact (s_Ra E _ (by omega) _)) dX8_faulty_20 (fun H locs hw => ?_)
        refine lv_iinc (v := nI (k + 1)) (lv' := [(1, .int (nI (k + 1))), (0, .ref (E.1 (232)))]) hx hb dX8_faulty_21 hl (k := 1) rfl (nI_1 _) (by decide) rfl (fun ls hl => ?_)
        refine lv_goto (tgt := 2) hx hb dX8_faulty_24 (by decide) ?_
        exact ih (k + 1) (pM μ1 10 k ((μ1).1 8 k)) (by omega) (by omega) (rga_10 hg1) (ty_10 (by decide) hy1) (((hq).trans ((if_neg c1).trans rfl))) _ _ _ (lv_sub hl [1, 0] rfl) hw
  exact key_2 260 0 μ (by omega) (by omega) hh hty (rfl) _ _ _ (lv_sub hl [1, 0] rfl) hw
