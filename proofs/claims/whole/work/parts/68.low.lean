/-! ===== the rows below 7 and the rest stay, whatever the reference does with orders ===== -/
def LO (m0 m : Mu) : Prop := m.2 = m0.2 ∧ ∀ c, c < 7 → m.1 c = m0.1 c
theorem lo_rf {m : Mu} : LO m m := ⟨rfl, fun _ _ => rfl⟩
theorem lo_tr {a b c : Mu} (h1 : LO a b) (h2 : LO b c) : LO a c := ⟨h2.1.trans h1.1, fun c hc => (h2.2 c hc).trans (h1.2 c hc)⟩
theorem lo_pM {m0 m : Mu} {c k : Nat} {v : Int32} (hc : 7 ≤ c) (h : LO m0 m) : LO m0 (pM m c k v) := ⟨h.1, fun c' hc' => (row_n _ (by omega)).trans (h.2 c' hc')⟩
theorem lo_lf {m0 : Mu} {v : Int32} {m : Mu} (h : LO m0 m) : LO m0 ((v, m).2) := h
theorem lo_ite {m0 : Mu} {P : Prop} [Decidable P] {a b : Int32 × Mu} (ha : LO m0 a.2) (hb : LO m0 b.2) : LO m0 (if P then a else b).2 := by
  split
  · exact ha
  · exact hb
theorem lo_iteM {m0 : Mu} {P : Prop} [Decidable P] {a b : Mu} (ha : LO m0 a) (hb : LO m0 b) : LO m0 (if P then a else b) := by
  split
  · exact ha
  · exact hb
theorem lo_oc {m0 : Mu} {o : Option Nat} {a : Int32 × Mu} {f : Nat → Int32 × Mu} (ha : LO m0 a.2) (hb : ∀ t, LO m0 (f t).2) : LO m0 (oc o a f).2 := by
  cases o with
  | none => exact ha
  | some t => exact hb t
theorem lo_ocM {m0 : Mu} {o : Option Nat} {a : Mu} {f : Nat → Mu} (ha : LO m0 a) (hb : ∀ t, LO m0 (f t)) : LO m0 (oc o a f) := by
  cases o with
  | none => exact ha
  | some t => exact hb t
theorem lo_X8_alarms {m0 : Mu} (μ : Mu)  (n : Nat) (w : Int32)  (hh : LO m0 μ) : LO m0 ((sp_X8_alarms μ n w)) := by
  unfold sp_X8_alarms
  exact (lo_iteM (lo_iteM (lo_pM (by decide) hh) (lo_iteM (lo_pM (by decide) hh) (lo_pM (by decide) hh))) (lo_iteM (lo_pM (by decide) hh) (lo_iteM (lo_pM (by decide) hh) (lo_pM (by decide) hh))))
theorem lo_X8_cuts {m0 : Mu} (μ : Mu)  (a : Int32) (b : Int32) (w : Int32)  (hh : LO m0 μ) : LO m0 ((sp_X8_cuts μ a b w).2) := by
  unfold sp_X8_cuts
  exact (lo_ite (lo_ite (lo_ite (lo_lf hh) (lo_lf (lo_pM (by decide) hh))) (lo_lf hh)) (lo_lf hh))
theorem lo_X8_baths {m0 : Mu} (μ : Mu)  (a : Int32) (b : Int32)  (hh : LO m0 μ) : LO m0 ((sp_X8_baths μ a b).2) := by
  unfold sp_X8_baths
  exact (lo_ite (lo_ite (lo_ite (lo_lf (lo_pM (by decide) hh)) (lo_lf hh)) (lo_lf hh)) (lo_lf hh))
theorem lo_X8_reads {m0 : Mu} (μ : Mu)  (a : Int32)  (hh : LO m0 μ) : LO m0 ((sp_X8_reads μ a).2) := by
  unfold sp_X8_reads
  exact (lo_ite (lo_ite (lo_ite (lo_lf (lo_X8_alarms (pM (pM (pM (pM (pM (pM (pM (pM (pM (pM (pM (pM μ 8 (85 + 29 * a.toNatClampNeg + 20) (μ.1 8 (85 + 29 * a.toNatClampNeg + 21))) 8 (85 + 29 * a.toNatClampNeg + 21) (μ.1 8 (85 + 29 * a.toNatClampNeg + 22))) 8 (85 + 29 * a.toNatClampNeg + 22) (μ.1 8 (85 + 29 * a.toNatClampNeg + 23))) 8 (85 + 29 * a.toNatClampNeg + 23) (μ.1 8 (85 + 29 * a.toNatClampNeg + 24))) 8 (85 + 29 * a.toNatClampNeg + 24) (μ.1 8 (85 + 29 * a.toNatClampNeg + 25))) 8 (85 + 29 * a.toNatClampNeg + 25) (μ.1 8 (85 + 29 * a.toNatClampNeg + 26))) 8 (85 + 29 * a.toNatClampNeg + 26) (μ.1 8 (85 + 29 * a.toNatClampNeg + 27))) 8 (85 + 29 * a.toNatClampNeg + 27) (μ.1 8 (85 + 29 * a.toNatClampNeg + 28))) 8 (85 + 29 * a.toNatClampNeg + 19) (8 : Int32)) 8 (85 + 29 * a.toNatClampNeg + 28) (sp_X8_degrees (μ.1 8)  a.toNatClampNeg)) 8 (85 + 29 * a.toNatClampNeg + 19) (9 : Int32)) 8 (85 + 29 * a.toNatClampNeg + 18) ((μ.1 8 (85 + 29 * a.toNatClampNeg + 18)) + 1)) a.toNatClampNeg (sp_X8_degrees (μ.1 8)  a.toNatClampNeg)  (lo_pM (by decide) (lo_pM (by decide) (lo_pM (by decide) (lo_pM (by decide) (lo_pM (by decide) (lo_pM (by decide) (lo_pM (by decide) (lo_pM (by decide) (lo_pM (by decide) (lo_pM (by decide) (lo_pM (by decide) (lo_pM (by decide) hh)))))))))))))) (lo_lf (lo_X8_alarms (pM (pM (pM μ 8 (85 + 29 * a.toNatClampNeg + (20 + ((μ.1 8 (85 + 29 * a.toNatClampNeg + 19)).toNatClampNeg))) (sp_X8_degrees (μ.1 8)  a.toNatClampNeg)) 8 (85 + 29 * a.toNatClampNeg + 19) (nI ((μ.1 8 (85 + 29 * a.toNatClampNeg + 19)).toNatClampNeg + 1))) 8 (85 + 29 * a.toNatClampNeg + 18) ((μ.1 8 (85 + 29 * a.toNatClampNeg + 18)) + 1)) a.toNatClampNeg (sp_X8_degrees (μ.1 8)  a.toNatClampNeg)  (lo_pM (by decide) (lo_pM (by decide) (lo_pM (by decide) hh)))))) (lo_lf hh)) (lo_lf hh))
theorem lo_lp_X8_scans_42 {m0 : Mu} (μ : Mu)   (hh : LO m0 μ) (f : Nat) : ∀ (v0 : Int32) (k : Nat), LO m0 ((lp_X8_scans_42 μ  f v0 k).2) := by
  induction f with
  | zero => intro v0 k; exact hh
  | succ f ih =>
    intro v0 k
    unfold lp_X8_scans_42
    exact (lo_ite (lo_lf hh) (lo_ite (ih _ _) (lo_ite (lo_lf (lo_X8_reads (pM μ 8 9 ((10 * (((v0 + (nI k)) - (v0 + (nI k)) / 12 * 12) / 3)) + (((v0 + (nI k)) - (v0 + (nI k)) / 12 * 12) - ((v0 + (nI k)) - (v0 + (nI k)) / 12 * 12) / 3 * 3))) (sp_X8_inside (μ.1 8)  ((10 * (((v0 + (nI k)) - (v0 + (nI k)) / 12 * 12) / 3)) + (((v0 + (nI k)) - (v0 + (nI k)) / 12 * 12) - ((v0 + (nI k)) - (v0 + (nI k)) / 12 * 12) / 3 * 3)))  (lo_pM (by decide) hh))) (lo_lf (lo_X8_reads (pM μ 8 9 ((10 * (((v0 + (nI k)) - (v0 + (nI k)) / 12 * 12) / 3)) + (((v0 + (nI k)) - (v0 + (nI k)) / 12 * 12) - ((v0 + (nI k)) - (v0 + (nI k)) / 12 * 12) / 3 * 3))) (sp_X8_inside (μ.1 8)  ((10 * (((v0 + (nI k)) - (v0 + (nI k)) / 12 * 12) / 3)) + (((v0 + (nI k)) - (v0 + (nI k)) / 12 * 12) - ((v0 + (nI k)) - (v0 + (nI k)) / 12 * 12) / 3 * 3)))  (lo_pM (by decide) hh))))))
theorem lo_X8_scans {m0 : Mu} (μ : Mu)    (hh : LO m0 μ) : LO m0 ((sp_X8_scans μ ).2) := by
  unfold sp_X8_scans
  exact (lo_ite (lo_lp_X8_scans_42 _ hh 13 (11 : Int32) 1) (lo_lp_X8_scans_42 _ hh 13 ((3 * ((μ.1 8 9) / 10)) + ((μ.1 8 9) - (μ.1 8 9) / 10 * 10)) 1))
theorem lo_X8_passes {m0 : Mu} (μ : Mu)  (ch : Int32)  (hh : LO m0 μ) : LO m0 ((sp_X8_passes μ ch).2) := by
  unfold sp_X8_passes
  exact (lo_ite (lo_lf (lo_pM (by decide) hh)) (lo_ite (lo_lf (lo_pM (by decide) hh)) (lo_lf (lo_pM (by decide) hh))))
theorem lo_lp_X8_takes_12 {m0 : Mu} (μ : Mu)  (k : Nat)  (f : Nat) : ∀  (μ1 : Mu), LO m0 μ1 → LO m0 ((lp_X8_takes_12 μ k  f  μ1).2) := by
  induction f with
  | zero => intro  μ1 h1; exact h1
  | succ f ih =>
    intro  μ1 h1
    unfold lp_X8_takes_12
    exact (lo_ite (lo_ite (lo_lf h1) (lo_lf h1)) (lo_ite (lo_ite (lo_lf h1) (lo_lf h1)) (lo_ite (ih _ (lo_pM (by decide) (lo_pM (by decide) h1))) (lo_ite (lo_lf h1) (lo_lf h1)))))
theorem lo_X8_takes {m0 : Mu} (μ : Mu)  (k : Nat)  (hh : LO m0 μ) : LO m0 ((sp_X8_takes μ k).2) := by
  unfold sp_X8_takes
  exact (lo_lp_X8_takes_12 _ _ _ _ (lo_pM (by decide) hh))
theorem lo_X8_readsForm {m0 : Mu} (μ : Mu)  (ch : Int32)  (hh : LO m0 μ) : LO m0 ((sp_X8_readsForm μ ch).2) := by
  unfold sp_X8_readsForm
  exact (lo_ite (lo_ite (lo_lf (lo_X8_passes μ (59 : Int32)  hh)) (lo_lf (lo_X8_passes μ (59 : Int32)  hh))) (lo_ite (lo_ite (lo_lf (lo_X8_takes μ 0  hh)) (lo_ite (lo_lf (lo_X8_passes ((sp_X8_takes μ  0).2) (59 : Int32)  (lo_X8_takes μ 0  hh))) (lo_lf (lo_X8_passes ((sp_X8_takes μ  0).2) (59 : Int32)  (lo_X8_takes μ 0  hh))))) (lo_ite (lo_ite (lo_lf (lo_X8_takes μ 0  hh)) (lo_ite (lo_lf (lo_pM (by decide) (lo_X8_passes ((sp_X8_takes μ  0).2) (44 : Int32)  (lo_X8_takes μ 0  hh)))) (lo_ite (lo_ite (lo_lf (lo_pM (by decide) (lo_X8_takes ((sp_X8_passes ((sp_X8_passes ((sp_X8_takes μ  0).2)  (44 : Int32)).2)  (45 : Int32)).2) 1  (lo_X8_passes ((sp_X8_passes ((sp_X8_takes μ  0).2)  (44 : Int32)).2) (45 : Int32)  (lo_X8_passes ((sp_X8_takes μ  0).2) (44 : Int32)  (lo_X8_takes μ 0  hh)))))) (lo_ite (lo_lf (lo_X8_passes (pM ((sp_X8_takes ((sp_X8_passes ((sp_X8_passes ((sp_X8_takes μ  0).2)  (44 : Int32)).2)  (45 : Int32)).2)  1).2) 13 1 (((sp_X8_takes ((sp_X8_passes ((sp_X8_passes ((sp_X8_takes μ  0).2)  (44 : Int32)).2)  (45 : Int32)).2)  1).2).1 13 1)) (59 : Int32)  (lo_pM (by decide) (lo_X8_takes ((sp_X8_passes ((sp_X8_passes ((sp_X8_takes μ  0).2)  (44 : Int32)).2)  (45 : Int32)).2) 1  (lo_X8_passes ((sp_X8_passes ((sp_X8_takes μ  0).2)  (44 : Int32)).2) (45 : Int32)  (lo_X8_passes ((sp_X8_takes μ  0).2) (44 : Int32)  (lo_X8_takes μ 0  hh))))))) (lo_lf (lo_X8_passes (pM ((sp_X8_takes ((sp_X8_passes ((sp_X8_passes ((sp_X8_takes μ  0).2)  (44 : Int32)).2)  (45 : Int32)).2)  1).2) 13 1 (((sp_X8_takes ((sp_X8_passes ((sp_X8_passes ((sp_X8_takes μ  0).2)  (44 : Int32)).2)  (45 : Int32)).2)  1).2).1 13 1)) (59 : Int32)  (lo_pM (by decide) (lo_X8_takes ((sp_X8_passes ((sp_X8_passes ((sp_X8_takes μ  0).2)  (44 : Int32)).2)  (45 : Int32)).2) 1  (lo_X8_passes ((sp_X8_passes ((sp_X8_takes μ  0).2)  (44 : Int32)).2) (45 : Int32)  (lo_X8_passes ((sp_X8_takes μ  0).2) (44 : Int32)  (lo_X8_takes μ 0  hh))))))))) (lo_ite (lo_lf (lo_pM (by decide) (lo_X8_takes ((sp_X8_passes ((sp_X8_passes ((sp_X8_takes μ  0).2)  (44 : Int32)).2)  (45 : Int32)).2) 1  (lo_X8_passes ((sp_X8_passes ((sp_X8_takes μ  0).2)  (44 : Int32)).2) (45 : Int32)  (lo_X8_passes ((sp_X8_takes μ  0).2) (44 : Int32)  (lo_X8_takes μ 0  hh)))))) (lo_ite (lo_lf (lo_X8_passes (pM ((sp_X8_takes ((sp_X8_passes ((sp_X8_passes ((sp_X8_takes μ  0).2)  (44 : Int32)).2)  (45 : Int32)).2)  1).2) 13 1 (-(((sp_X8_takes ((sp_X8_passes ((sp_X8_passes ((sp_X8_takes μ  0).2)  (44 : Int32)).2)  (45 : Int32)).2)  1).2).1 13 1))) (59 : Int32)  (lo_pM (by decide) (lo_X8_takes ((sp_X8_passes ((sp_X8_passes ((sp_X8_takes μ  0).2)  (44 : Int32)).2)  (45 : Int32)).2) 1  (lo_X8_passes ((sp_X8_passes ((sp_X8_takes μ  0).2)  (44 : Int32)).2) (45 : Int32)  (lo_X8_passes ((sp_X8_takes μ  0).2) (44 : Int32)  (lo_X8_takes μ 0  hh))))))) (lo_lf (lo_X8_passes (pM ((sp_X8_takes ((sp_X8_passes ((sp_X8_passes ((sp_X8_takes μ  0).2)  (44 : Int32)).2)  (45 : Int32)).2)  1).2) 13 1 (-(((sp_X8_takes ((sp_X8_passes ((sp_X8_passes ((sp_X8_takes μ  0).2)  (44 : Int32)).2)  (45 : Int32)).2)  1).2).1 13 1))) (59 : Int32)  (lo_pM (by decide) (lo_X8_takes ((sp_X8_passes ((sp_X8_passes ((sp_X8_takes μ  0).2)  (44 : Int32)).2)  (45 : Int32)).2) 1  (lo_X8_passes ((sp_X8_passes ((sp_X8_takes μ  0).2)  (44 : Int32)).2) (45 : Int32)  (lo_X8_passes ((sp_X8_takes μ  0).2) (44 : Int32)  (lo_X8_takes μ 0  hh)))))))))))) (lo_ite (lo_ite (lo_lf (lo_X8_takes μ 0  hh)) (lo_ite (lo_lf (lo_pM (by decide) (lo_X8_passes ((sp_X8_takes μ  0).2) (44 : Int32)  (lo_X8_takes μ 0  hh)))) (lo_ite (lo_lf (lo_pM (by decide) (lo_X8_takes ((sp_X8_passes ((sp_X8_takes μ  0).2)  (44 : Int32)).2) 1  (lo_X8_passes ((sp_X8_takes μ  0).2) (44 : Int32)  (lo_X8_takes μ 0  hh))))) (lo_ite (lo_lf (lo_X8_passes (pM ((sp_X8_takes ((sp_X8_passes ((sp_X8_takes μ  0).2)  (44 : Int32)).2)  1).2) 13 1 (((sp_X8_takes ((sp_X8_passes ((sp_X8_takes μ  0).2)  (44 : Int32)).2)  1).2).1 13 1)) (59 : Int32)  (lo_pM (by decide) (lo_X8_takes ((sp_X8_passes ((sp_X8_takes μ  0).2)  (44 : Int32)).2) 1  (lo_X8_passes ((sp_X8_takes μ  0).2) (44 : Int32)  (lo_X8_takes μ 0  hh)))))) (lo_lf (lo_X8_passes (pM ((sp_X8_takes ((sp_X8_passes ((sp_X8_takes μ  0).2)  (44 : Int32)).2)  1).2) 13 1 (((sp_X8_takes ((sp_X8_passes ((sp_X8_takes μ  0).2)  (44 : Int32)).2)  1).2).1 13 1)) (59 : Int32)  (lo_pM (by decide) (lo_X8_takes ((sp_X8_passes ((sp_X8_takes μ  0).2)  (44 : Int32)).2) 1  (lo_X8_passes ((sp_X8_takes μ  0).2) (44 : Int32)  (lo_X8_takes μ 0  hh)))))))))) (lo_ite (lo_ite (lo_lf (lo_X8_takes μ 0  hh)) (lo_ite (lo_lf (lo_pM (by decide) (lo_X8_passes ((sp_X8_takes μ  0).2) (44 : Int32)  (lo_X8_takes μ 0  hh)))) (lo_ite (lo_lf (lo_pM (by decide) (lo_X8_takes ((sp_X8_passes ((sp_X8_takes μ  0).2)  (44 : Int32)).2) 1  (lo_X8_passes ((sp_X8_takes μ  0).2) (44 : Int32)  (lo_X8_takes μ 0  hh))))) (lo_ite (lo_lf (lo_X8_passes (pM ((sp_X8_takes ((sp_X8_passes ((sp_X8_takes μ  0).2)  (44 : Int32)).2)  1).2) 13 1 (((sp_X8_takes ((sp_X8_passes ((sp_X8_takes μ  0).2)  (44 : Int32)).2)  1).2).1 13 1)) (59 : Int32)  (lo_pM (by decide) (lo_X8_takes ((sp_X8_passes ((sp_X8_takes μ  0).2)  (44 : Int32)).2) 1  (lo_X8_passes ((sp_X8_takes μ  0).2) (44 : Int32)  (lo_X8_takes μ 0  hh)))))) (lo_lf (lo_X8_passes (pM ((sp_X8_takes ((sp_X8_passes ((sp_X8_takes μ  0).2)  (44 : Int32)).2)  1).2) 13 1 (((sp_X8_takes ((sp_X8_passes ((sp_X8_takes μ  0).2)  (44 : Int32)).2)  1).2).1 13 1)) (59 : Int32)  (lo_pM (by decide) (lo_X8_takes ((sp_X8_passes ((sp_X8_takes μ  0).2)  (44 : Int32)).2) 1  (lo_X8_passes ((sp_X8_takes μ  0).2) (44 : Int32)  (lo_X8_takes μ 0  hh)))))))))) (lo_lf hh))))))
theorem lo_X8_does {m0 : Mu} (μ : Mu)  (ch : Int32)  (hh : LO m0 μ) : LO m0 ((sp_X8_does μ ch).2) := by
  unfold sp_X8_does
  exact (lo_ite (lo_lf (lo_X8_cuts μ (μ.1 13 0) (μ.1 13 1) (1 : Int32)  hh)) (lo_ite (lo_lf (lo_X8_cuts μ (μ.1 13 0) (μ.1 13 1) (0 : Int32)  hh)) (lo_ite (lo_lf (lo_X8_reads μ (μ.1 13 0)  hh)) (lo_ite (lo_lf (lo_X8_baths μ (μ.1 13 0) (μ.1 13 1)  hh)) (lo_lf (lo_X8_scans μ  hh))))))
theorem lo_X8_doesNext {m0 : Mu} (μ : Mu)    (hh : LO m0 μ) : LO m0 ((sp_X8_doesNext μ ).2) := by
  unfold sp_X8_doesNext
  exact (lo_ite (lo_lf (lo_X8_readsForm (pM μ 7 2 (nI ((μ.1 7 2).toNatClampNeg + 1))) (μ.1 12 ((μ.1 7 2).toNatClampNeg))  (lo_pM (by decide) hh))) (lo_ite (lo_ite (lo_lf (lo_X8_does ((sp_X8_readsForm (pM μ 7 2 (nI ((μ.1 7 2).toNatClampNeg + 1)))  (μ.1 12 ((μ.1 7 2).toNatClampNeg))).2) (μ.1 12 ((μ.1 7 2).toNatClampNeg))  (lo_X8_readsForm (pM μ 7 2 (nI ((μ.1 7 2).toNatClampNeg + 1))) (μ.1 12 ((μ.1 7 2).toNatClampNeg))  (lo_pM (by decide) hh)))) (lo_lf (lo_X8_does ((sp_X8_readsForm (pM μ 7 2 (nI ((μ.1 7 2).toNatClampNeg + 1)))  (μ.1 12 ((μ.1 7 2).toNatClampNeg))).2) (μ.1 12 ((μ.1 7 2).toNatClampNeg))  (lo_X8_readsForm (pM μ 7 2 (nI ((μ.1 7 2).toNatClampNeg + 1))) (μ.1 12 ((μ.1 7 2).toNatClampNeg))  (lo_pM (by decide) hh))))) (lo_ite (lo_ite (lo_ite (lo_lf (lo_X8_does ((sp_X8_readsForm (pM μ 7 2 (nI ((μ.1 7 2).toNatClampNeg + 1)))  (μ.1 12 ((μ.1 7 2).toNatClampNeg))).2) (μ.1 12 ((μ.1 7 2).toNatClampNeg))  (lo_X8_readsForm (pM μ 7 2 (nI ((μ.1 7 2).toNatClampNeg + 1))) (μ.1 12 ((μ.1 7 2).toNatClampNeg))  (lo_pM (by decide) hh)))) (lo_lf (lo_X8_does ((sp_X8_readsForm (pM μ 7 2 (nI ((μ.1 7 2).toNatClampNeg + 1)))  (μ.1 12 ((μ.1 7 2).toNatClampNeg))).2) (μ.1 12 ((μ.1 7 2).toNatClampNeg))  (lo_X8_readsForm (pM μ 7 2 (nI ((μ.1 7 2).toNatClampNeg + 1))) (μ.1 12 ((μ.1 7 2).toNatClampNeg))  (lo_pM (by decide) hh))))) (lo_lf (lo_X8_readsForm (pM μ 7 2 (nI ((μ.1 7 2).toNatClampNeg + 1))) (μ.1 12 ((μ.1 7 2).toNatClampNeg))  (lo_pM (by decide) hh)))) (lo_ite (lo_ite (lo_ite (lo_lf (lo_X8_does ((sp_X8_readsForm (pM μ 7 2 (nI ((μ.1 7 2).toNatClampNeg + 1)))  (μ.1 12 ((μ.1 7 2).toNatClampNeg))).2) (μ.1 12 ((μ.1 7 2).toNatClampNeg))  (lo_X8_readsForm (pM μ 7 2 (nI ((μ.1 7 2).toNatClampNeg + 1))) (μ.1 12 ((μ.1 7 2).toNatClampNeg))  (lo_pM (by decide) hh)))) (lo_lf (lo_X8_does ((sp_X8_readsForm (pM μ 7 2 (nI ((μ.1 7 2).toNatClampNeg + 1)))  (μ.1 12 ((μ.1 7 2).toNatClampNeg))).2) (μ.1 12 ((μ.1 7 2).toNatClampNeg))  (lo_X8_readsForm (pM μ 7 2 (nI ((μ.1 7 2).toNatClampNeg + 1))) (μ.1 12 ((μ.1 7 2).toNatClampNeg))  (lo_pM (by decide) hh))))) (lo_lf (lo_X8_readsForm (pM μ 7 2 (nI ((μ.1 7 2).toNatClampNeg + 1))) (μ.1 12 ((μ.1 7 2).toNatClampNeg))  (lo_pM (by decide) hh)))) (lo_ite (lo_ite (lo_lf (lo_X8_does ((sp_X8_readsForm (pM μ 7 2 (nI ((μ.1 7 2).toNatClampNeg + 1)))  (μ.1 12 ((μ.1 7 2).toNatClampNeg))).2) (μ.1 12 ((μ.1 7 2).toNatClampNeg))  (lo_X8_readsForm (pM μ 7 2 (nI ((μ.1 7 2).toNatClampNeg + 1))) (μ.1 12 ((μ.1 7 2).toNatClampNeg))  (lo_pM (by decide) hh)))) (lo_lf (lo_X8_does ((sp_X8_readsForm (pM μ 7 2 (nI ((μ.1 7 2).toNatClampNeg + 1)))  (μ.1 12 ((μ.1 7 2).toNatClampNeg))).2) (μ.1 12 ((μ.1 7 2).toNatClampNeg))  (lo_X8_readsForm (pM μ 7 2 (nI ((μ.1 7 2).toNatClampNeg + 1))) (μ.1 12 ((μ.1 7 2).toNatClampNeg))  (lo_pM (by decide) hh))))) (lo_lf (lo_X8_readsForm (pM μ 7 2 (nI ((μ.1 7 2).toNatClampNeg + 1))) (μ.1 12 ((μ.1 7 2).toNatClampNeg))  (lo_pM (by decide) hh))))))))
theorem lo_83 {m0 x : Mu} : ∀ (f : Nat) (v : Int32) (k : Nat) (m : Mu), LO m0 m → LO m0 (lp_X8_faulty_83 x f v k m).2 := by
  intro f
  induction f with
  | zero => intro v k m h; exact h
  | succ f ih =>
    intro v k m h
    unfold lp_X8_faulty_83
    exact lo_ite h (ih _ _ _ (lo_pM (by decide) h))
theorem lo_35 {m0 x : Mu} : ∀ (f : Nat) (v : Int32) (m : Mu), LO m0 m → LO m0 (lp_X8_faulty_35 x f v m).2 := by
  intro f
  induction f with
  | zero => intro v m h; exact h
  | succ f ih =>
    intro v m h
    unfold lp_X8_faulty_35
    exact lo_ite (lo_83 _ _ _ _ h) (lo_ite (lo_ite (ih _ _ (lo_pM (by decide) (lo_X8_doesNext m h))) (ih _ _ (lo_pM (by decide) (lo_X8_doesNext m h)))) (lo_83 _ _ _ _ h))
theorem lo_2 {m0 x : Mu} : ∀ (f k : Nat) (m : Mu), LO m0 m → LO m0 (lp_X8_faulty_2 x f k m).2 := by
  intro f
  induction f with
  | zero => intro k m h; exact h
  | succ f ih =>
    intro k m h
    unfold lp_X8_faulty_2
    exact lo_ite (lo_35 _ _ _ (lo_pM (by decide) h)) (ih _ _ (lo_pM (by decide) h))
theorem lo_faulty (m : Mu) : LO m (sp_X8_faulty m).2 := lo_2 _ _ _ lo_rf
/-- restoring answers what was found, row 7 stays -/
theorem r83_1 {x : Mu} : ∀ (f : Nat) (v : Int32) (k : Nat) (m : Mu), k + f = 260 → k ≤ 259 → (lp_X8_faulty_83 x f v k m).1 = v ∧ (lp_X8_faulty_83 x f v k m).2.1 7 = m.1 7 := by
  intro f
  induction f with
  | zero => intro v k m h1 h2; omega
  | succ f ih =>
    intro v k m h1 h2
    unfold lp_X8_faulty_83
    rw [show (259 : Int32) = nI 259 from rfl]
    by_cases c : 259 ≤ k
    · rw [if_pos ((nI_leI (a := 259) (by omega) (by omega)).mpr c)]; exact ⟨rfl, rfl⟩
    · rw [if_neg (fun q => c ((nI_leI (a := 259) (by omega) (by omega)).mp q))]
      obtain ⟨a, b⟩ := ih v (k + 1) (pM m 8 k (m.1 10 k)) (by omega) (by omega)
      exact ⟨a, b.trans (row_n _ (by omega))⟩
/-- putting aside, then the orders -/
theorem f2_35 {x : Mu} : ∀ (f k : Nat) (m : Mu), k + f = 260 → k ≤ 259 → ∃ y, lp_X8_faulty_2 x f k m = lp_X8_faulty_35 x 62 (-2000000004) (pM y 7 2 0) ∧ y.2 = m.2 ∧ ∀ c, c ≠ 10 → y.1 c = m.1 c := by
  intro f
  induction f with
  | zero => intro k m h1 h2; omega
  | succ f ih =>
    intro k m h1 h2
    unfold lp_X8_faulty_2
    rw [show (259 : Int32) = nI 259 from rfl]
    by_cases c : 259 ≤ k
    · rw [if_pos ((nI_leI (a := 259) (by omega) (by omega)).mpr c)]; exact ⟨m, rfl, rfl, fun _ _ => rfl⟩
    · rw [if_neg (fun q => c ((nI_leI (a := 259) (by omega) (by omega)).mp q))]
      obtain ⟨y, a, b, d⟩ := ih (k + 1) (pM m 10 k (m.1 8 k)) (by omega) (by omega)
      exact ⟨y, a, b, fun c hc => (d c hc).trans (row_n _ hc)⟩
theorem faulty_35 (x : Mu) : ∃ y, sp_X8_faulty x = lp_X8_faulty_35 x 62 (-2000000004) (pM y 7 2 0) ∧ y.2 = x.2 ∧ ∀ c, c ≠ 10 → y.1 c = x.1 c := f2_35 260 0 x rfl (by omega)
