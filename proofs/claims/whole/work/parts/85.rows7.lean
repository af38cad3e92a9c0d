/-! ===== the class leaves the rows from 7 on ===== -/
def H7 (M0 : Nat → Nat → Int32) (m : Mu) : Prop := ∀ c, 7 ≤ c → m.1 c = M0 c
theorem h7_pM {M0 : Nat → Nat → Int32} {m : Mu} {c k : Nat} {v : Int32} (hc : c < 7) (h : H7 M0 m) : H7 M0 (pM m c k v) := fun x hx => (upM_r m.1 (k := k) v (show x ≠ c by omega)).trans (h x hx)
theorem h7_pJ {M0 : Nat → Nat → Int32} {m : Mu} {c k : Nat} {v : Int64} (h : H7 M0 m) : H7 M0 (pJ m c k v) := h
theorem h7_pK {M0 : Nat → Nat → Int32} {m : Mu} {k v : Nat} (h : H7 M0 m) : H7 M0 (pK m k v) := h
theorem h7_pC {M0 : Nat → Nat → Int32} {m : Mu} {c b c' b' n : Nat} (hc : c < 7) (h : H7 M0 m) : H7 M0 (pC m c b c' b' n) := fun x hx => by
  rw [← h x hx]
  exact pC_row (by omega)
theorem h7_msr {M0 : Nat → Nat → Int32} {m : Mu} {j n : Nat} (h : H7 M0 m) : H7 M0 (msr m j n) := fun x hx => (ms_M m n (show x ≠ 6 by omega)).trans (h x hx)
theorem h7_tk {M0 : Nat → Nat → Int32} {m : Mu} {z j n : Nat} {cu : Int32} (h : H7 M0 m) : H7 M0 (tkJ m z j n cu) := h
theorem h7_lf {M0 : Nat → Nat → Int32} {v : Int32} {m : Mu} (h : H7 M0 m) : H7 M0 ((v, m).2) := h
theorem h7_ite {M0 : Nat → Nat → Int32} {P : Prop} [Decidable P] {a b : Int32 × Mu} (ha : H7 M0 a.2) (hb : H7 M0 b.2) : H7 M0 (if P then a else b).2 := by
  split
  · exact ha
  · exact hb
theorem h7_iteM {M0 : Nat → Nat → Int32} {P : Prop} [Decidable P] {a b : Mu} (ha : H7 M0 a) (hb : H7 M0 b) : H7 M0 (if P then a else b) := by
  split
  · exact ha
  · exact hb
theorem h7_oc {M0 : Nat → Nat → Int32} {o : Option Nat} {a : Int32 × Mu} {f : Nat → Int32 × Mu} (ha : H7 M0 a.2) (hb : ∀ t, H7 M0 (f t).2) : H7 M0 (oc o a f).2 := by
  cases o with
  | none => exact ha
  | some t => exact hb t
theorem h7_ocM {M0 : Nat → Nat → Int32} {o : Option Nat} {a : Mu} {f : Nat → Mu} (ha : H7 M0 a) (hb : ∀ t, H7 M0 (f t)) : H7 M0 (oc o a f) := by
  cases o with
  | none => exact ha
  | some t => exact hb t
theorem h7_X3_setLead {M0 : Nat → Nat → Int32} (μ : Mu) (j : Nat) (n : Nat) (w : Int32) (v : Int32) (hj : j < 6) (hh : H7 M0 μ) : H7 M0 ((sp_X3_setLead μ j n w v)) := by
  unfold sp_X3_setLead
  exact (h7_iteM hh (h7_iteM hh (h7_pM (c := j) (by omega) hh)))
theorem h7_X3_setStrain {M0 : Nat → Nat → Int32} (μ : Mu) (j : Nat) (n : Nat) (w : Int32) (v : Int32) (hj : j < 6) (hh : H7 M0 μ) : H7 M0 ((sp_X3_setStrain μ j n w v)) := by
  unfold sp_X3_setStrain
  exact (h7_iteM hh (h7_iteM hh (h7_pM (c := j) (by omega) hh)))
theorem h7_X3_turnWire {M0 : Nat → Nat → Int32} (μ : Mu) (j : Nat) (n : Nat) (w : Int32) (hj : j < 6) (hh : H7 M0 μ) : H7 M0 ((sp_X3_turnWire μ j n w)) := by
  unfold sp_X3_turnWire
  exact (h7_pM (c := j) (by omega) hh)
theorem h7_X3_watch {M0 : Nat → Nat → Int32} (μ : Mu) (j : Nat) (n : Nat) (a : Int32) (b : Int32) (h : Int32) (hj : j < 6) (hh : H7 M0 μ) : H7 M0 ((sp_X3_watch μ j n a b h)) := by
  unfold sp_X3_watch
  exact (h7_pM (c := j) (by omega) (h7_pM (c := j) (by omega) (h7_pM (c := j) (by omega) (h7_pM (c := j) (by omega) hh))))
theorem h7_X3_begin {M0 : Nat → Nat → Int32} (μ : Mu) (j : Nat) (n : Nat) (a : Int32) (b : Int32) (h : Int32) (g : Int32) (hj : j < 6) (hh : H7 M0 μ) : H7 M0 ((sp_X3_begin μ j n a b h g)) := by
  unfold sp_X3_begin
  exact (h7_X3_watch (pM (pM (pM (pM (pM μ j (sF n 0) a) j (sF n 1) b) j (sF n 2) h) j (sF n 3) h) j (sF n 4) g) j n ((-200000) : Int32) (850000 : Int32) (0 : Int32)  (by omega) (h7_pM (c := j) (by omega) (h7_pM (c := j) (by omega) (h7_pM (c := j) (by omega) (h7_pM (c := j) (by omega) (h7_pM (c := j) (by omega) hh))))))
theorem h7_X3_log {M0 : Nat → Nat → Int32} (μ : Mu) (j : Nat) (n : Nat) (w : Int32) (hj : j < 6) (hh : H7 M0 μ) : H7 M0 ((sp_X3_log μ j n w)) := by
  unfold sp_X3_log
  exact (h7_iteM (h7_iteM (h7_pM (c := j) (by omega) (h7_pM (c := j) (by omega) (h7_pM (c := j) (by omega) (h7_pM (c := j) (by omega) (h7_pM (c := j) (by omega) (h7_pM (c := j) (by omega) (h7_pM (c := j) (by omega) (h7_pM (c := j) (by omega) (h7_pM (c := j) (by omega) (h7_pM (c := j) (by omega) (h7_pM (c := j) (by omega) hh))))))))))) (h7_iteM (h7_iteM (h7_iteM (h7_pM (c := j) (by omega) (h7_pM (c := j) (by omega) (h7_pM (c := j) (by omega) (h7_pM (c := j) (by omega) (h7_pM (c := j) (by omega) (h7_pM (c := j) (by omega) (h7_pM (c := j) (by omega) (h7_pM (c := j) (by omega) (h7_pM (c := j) (by omega) (h7_pM (c := j) (by omega) hh)))))))))) (h7_iteM (h7_pM (c := j) (by omega) (h7_pM (c := j) (by omega) (h7_pM (c := j) (by omega) (h7_pM (c := j) (by omega) (h7_pM (c := j) (by omega) (h7_pM (c := j) (by omega) (h7_pM (c := j) (by omega) (h7_pM (c := j) (by omega) (h7_pM (c := j) (by omega) (h7_pM (c := j) (by omega) hh)))))))))) (h7_pM (c := j) (by omega) (h7_pM (c := j) (by omega) (h7_pM (c := j) (by omega) (h7_pM (c := j) (by omega) (h7_pM (c := j) (by omega) (h7_pM (c := j) (by omega) (h7_pM (c := j) (by omega) (h7_pM (c := j) (by omega) (h7_pM (c := j) (by omega) (h7_pM (c := j) (by omega) (h7_pM (c := j) (by omega) hh))))))))))))) (h7_pM (c := j) (by omega) (h7_pM (c := j) (by omega) (h7_pM (c := j) (by omega) (h7_pM (c := j) (by omega) (h7_pM (c := j) (by omega) (h7_pM (c := j) (by omega) (h7_pM (c := j) (by omega) (h7_pM (c := j) (by omega) (h7_pM (c := j) (by omega) (h7_pM (c := j) (by omega) hh))))))))))) (h7_pM (c := j) (by omega) (h7_pM (c := j) (by omega) (h7_pM (c := j) (by omega) (h7_pM (c := j) (by omega) (h7_pM (c := j) (by omega) (h7_pM (c := j) (by omega) (h7_pM (c := j) (by omega) (h7_pM (c := j) (by omega) (h7_pM (c := j) (by omega) (h7_pM (c := j) (by omega) (h7_pM (c := j) (by omega) hh))))))))))))) (h7_iteM (h7_iteM (h7_pM (c := j) (by omega) (h7_pM (c := j) (by omega) (h7_pM (c := j) (by omega) (h7_pM (c := j) (by omega) (h7_pM (c := j) (by omega) (h7_pM (c := j) (by omega) (h7_pM (c := j) (by omega) (h7_pM (c := j) (by omega) (h7_pM (c := j) (by omega) (h7_pM (c := j) (by omega) hh)))))))))) (h7_iteM (h7_pM (c := j) (by omega) (h7_pM (c := j) (by omega) (h7_pM (c := j) (by omega) (h7_pM (c := j) (by omega) (h7_pM (c := j) (by omega) (h7_pM (c := j) (by omega) (h7_pM (c := j) (by omega) (h7_pM (c := j) (by omega) (h7_pM (c := j) (by omega) (h7_pM (c := j) (by omega) hh)))))))))) (h7_pM (c := j) (by omega) (h7_pM (c := j) (by omega) (h7_pM (c := j) (by omega) (h7_pM (c := j) (by omega) (h7_pM (c := j) (by omega) (h7_pM (c := j) (by omega) (h7_pM (c := j) (by omega) (h7_pM (c := j) (by omega) (h7_pM (c := j) (by omega) (h7_pM (c := j) (by omega) (h7_pM (c := j) (by omega) hh))))))))))))) (h7_pM (c := j) (by omega) (h7_pM (c := j) (by omega) (h7_pM (c := j) (by omega) (h7_pM (c := j) (by omega) (h7_pM (c := j) (by omega) (h7_pM (c := j) (by omega) (h7_pM (c := j) (by omega) (h7_pM (c := j) (by omega) (h7_pM (c := j) (by omega) (h7_pM (c := j) (by omega) hh))))))))))))
theorem h7_X5_append {M0 : Nat → Nat → Int32} (μ : Mu) (j : Nat) (t : Nat) (a : Int32) (b : Int32) (hj : j < 6) (hh : H7 M0 μ) : H7 M0 ((sp_X5_append μ j t a b)) := by
  unfold sp_X5_append
  exact (h7_iteM hh (h7_iteM hh (h7_iteM hh (h7_pM (c := j) (by omega) (h7_pM (c := j) (by omega) (h7_pM (c := j) (by omega) hh))))))
theorem h7_X5_copy {M0 : Nat → Nat → Int32} (μ : Mu) (j : Nat) (t : Nat) (j2 : Nat) (t2 : Nat)  (hj : j < 6) (hh : H7 M0 μ) : H7 M0 ((sp_X5_copy μ j t j2 t2)) := by
  unfold sp_X5_copy
  exact (h7_pC (c := j) (by omega) (h7_pC (c := j) (by omega) (h7_pM (c := j) (by omega) hh)))
theorem h7_X3_copy {M0 : Nat → Nat → Int32} (μ : Mu) (j : Nat) (n : Nat) (j2 : Nat) (n2 : Nat)  (hj : j < 6) (hh : H7 M0 μ) : H7 M0 ((sp_X3_copy μ j n j2 n2)) := by
  unfold sp_X3_copy
  exact (h7_pC (c := j) (by omega) (h7_pC (c := j) (by omega) (h7_pC (c := j) (by omega) (h7_pM (c := j) (by omega) (h7_pM (c := j) (by omega) (h7_pM (c := j) (by omega) (h7_pM (c := j) (by omega) (h7_pM (c := j) (by omega) (h7_pM (c := j) (by omega) (h7_pM (c := j) (by omega) (h7_pM (c := j) (by omega) (h7_pM (c := j) (by omega) (h7_pM (c := j) (by omega) (h7_pM (c := j) (by omega) (h7_pM (c := j) (by omega) hh)))))))))))))))
theorem h7_X4_changeSetting {M0 : Nat → Nat → Int32} (μ : Mu) (j : Nat) (w : Int32) (v : Int32) (hj : j < 6) (hh : H7 M0 μ) : H7 M0 ((sp_X4_changeSetting μ j w v)) := by
  unfold sp_X4_changeSetting
  exact (h7_iteM hh (h7_iteM hh (h7_pM (c := j) (by omega) hh)))
theorem h7_X4_copy {M0 : Nat → Nat → Int32} (μ : Mu) (j : Nat) (j2 : Nat)  (hj : j < 6) (hh : H7 M0 μ) : H7 M0 ((sp_X4_copy μ j j2)) := by
  unfold sp_X4_copy
  exact (h7_pC (c := j) (by omega) (h7_X3_copy (sp_X3_copy (sp_X3_copy (sp_X3_copy (sp_X3_copy (sp_X3_copy (sp_X5_copy (sp_X5_copy (sp_X5_copy (pM (pM (pM μ j 0 (μ.1 j2 0)) j 1 (μ.1 j2 1)) j 2 (μ.1 j2 2)) j 0 j2 0 ) j 1 j2 1 ) j 2 j2 2 ) j 0 j2 0 ) j 1 j2 1 ) j 2 j2 2 ) j 3 j2 3 ) j 4 j2 4 ) j 5 j2 5  (by omega) (h7_X3_copy (sp_X3_copy (sp_X3_copy (sp_X3_copy (sp_X3_copy (sp_X5_copy (sp_X5_copy (sp_X5_copy (pM (pM (pM μ j 0 (μ.1 j2 0)) j 1 (μ.1 j2 1)) j 2 (μ.1 j2 2)) j 0 j2 0 ) j 1 j2 1 ) j 2 j2 2 ) j 0 j2 0 ) j 1 j2 1 ) j 2 j2 2 ) j 3 j2 3 ) j 4 j2 4  (by omega) (h7_X3_copy (sp_X3_copy (sp_X3_copy (sp_X3_copy (sp_X5_copy (sp_X5_copy (sp_X5_copy (pM (pM (pM μ j 0 (μ.1 j2 0)) j 1 (μ.1 j2 1)) j 2 (μ.1 j2 2)) j 0 j2 0 ) j 1 j2 1 ) j 2 j2 2 ) j 0 j2 0 ) j 1 j2 1 ) j 2 j2 2 ) j 3 j2 3  (by omega) (h7_X3_copy (sp_X3_copy (sp_X3_copy (sp_X5_copy (sp_X5_copy (sp_X5_copy (pM (pM (pM μ j 0 (μ.1 j2 0)) j 1 (μ.1 j2 1)) j 2 (μ.1 j2 2)) j 0 j2 0 ) j 1 j2 1 ) j 2 j2 2 ) j 0 j2 0 ) j 1 j2 1 ) j 2 j2 2  (by omega) (h7_X3_copy (sp_X3_copy (sp_X5_copy (sp_X5_copy (sp_X5_copy (pM (pM (pM μ j 0 (μ.1 j2 0)) j 1 (μ.1 j2 1)) j 2 (μ.1 j2 2)) j 0 j2 0 ) j 1 j2 1 ) j 2 j2 2 ) j 0 j2 0 ) j 1 j2 1  (by omega) (h7_X3_copy (sp_X5_copy (sp_X5_copy (sp_X5_copy (pM (pM (pM μ j 0 (μ.1 j2 0)) j 1 (μ.1 j2 1)) j 2 (μ.1 j2 2)) j 0 j2 0 ) j 1 j2 1 ) j 2 j2 2 ) j 0 j2 0  (by omega) (h7_X5_copy (sp_X5_copy (sp_X5_copy (pM (pM (pM μ j 0 (μ.1 j2 0)) j 1 (μ.1 j2 1)) j 2 (μ.1 j2 2)) j 0 j2 0 ) j 1 j2 1 ) j 2 j2 2  (by omega) (h7_X5_copy (sp_X5_copy (pM (pM (pM μ j 0 (μ.1 j2 0)) j 1 (μ.1 j2 1)) j 2 (μ.1 j2 2)) j 0 j2 0 ) j 1 j2 1  (by omega) (h7_X5_copy (pM (pM (pM μ j 0 (μ.1 j2 0)) j 1 (μ.1 j2 1)) j 2 (μ.1 j2 2)) j 0 j2 0  (by omega) (h7_pM (c := j) (by omega) (h7_pM (c := j) (by omega) (h7_pM (c := j) (by omega) hh)))))))))))))
theorem h7_X0_dropOldest {M0 : Nat → Nat → Int32} (μ : Mu)    (hh : H7 M0 μ) : H7 M0 ((sp_X0_dropOldest μ )) := by
  unfold sp_X0_dropOldest
  exact (h7_pM (c := 6) (by decide) (h7_pK (h7_pK (h7_pK (h7_pK hh)))))
theorem h7_X0_restore {M0 : Nat → Nat → Int32} (μ : Mu)    (hh : H7 M0 μ) : H7 M0 ((sp_X0_restore μ )) := by
  unfold sp_X0_restore
  exact (h7_iteM hh (h7_iteM hh (h7_X4_copy (pM μ 6 0 ((μ.1 6 0) - 1)) 0 (μ.2.2 (((μ.1 6 0) - 1).toNatClampNeg))  (by omega) (h7_pM (c := 6) (by decide) hh))))
theorem h7_X6_takes {M0 : Nat → Nat → Int32} (μ : Mu)  (a : Int32)  (hh : H7 M0 μ) : H7 M0 ((sp_X6_takes μ a).2) := by
  unfold sp_X6_takes
  exact (h7_ite (h7_lf (h7_pM (c := 6) (by decide) hh)) (h7_lf hh))
theorem h7_lp_X6_parsedDigits_4 {M0 : Nat → Nat → Int32} (μ : Mu)    (f : Nat) : ∀ (x : Int32) (k : Nat) (μ1 : Mu), H7 M0 μ1 → H7 M0 ((lp_X6_parsedDigits_4 μ   f x k μ1).2) := by
  induction f with
  | zero => intro x k μ1 h1; exact h1
  | succ f ih =>
    intro x k μ1 h1
    unfold lp_X6_parsedDigits_4
    exact (h7_ite (h7_ite (h7_lf h1) (h7_lf h1)) (h7_ite (h7_ite (h7_lf h1) (h7_lf h1)) (h7_ite (h7_ite (h7_lf h1) (h7_lf h1)) (ih _ _ _ (h7_pM (c := 6) (by decide) h1)))))
theorem h7_X6_parsedDigits {M0 : Nat → Nat → Int32} (μ : Mu)    (hh : H7 M0 μ) : H7 M0 ((sp_X6_parsedDigits μ ).2) := by
  unfold sp_X6_parsedDigits
  exact (h7_lp_X6_parsedDigits_4 _ _ _ _ _ hh)
theorem h7_X6_parsesNumber {M0 : Nat → Nat → Int32} (μ : Mu)    (hh : H7 M0 μ) : H7 M0 ((sp_X6_parsesNumber μ ).2) := by
  unfold sp_X6_parsesNumber
  exact (h7_ite (h7_lf (h7_X6_takes μ (44 : Int32)  hh)) (h7_ite (h7_ite (h7_ite (h7_lf (h7_pM (c := 6) (by decide) (h7_X6_parsedDigits ((sp_X6_takes ((sp_X6_takes μ  (44 : Int32)).2)  (45 : Int32)).2)  (h7_X6_takes ((sp_X6_takes μ  (44 : Int32)).2) (45 : Int32)  (h7_X6_takes μ (44 : Int32)  hh))))) (h7_lf (h7_pM (c := 6) (by decide) (h7_X6_parsedDigits ((sp_X6_takes ((sp_X6_takes μ  (44 : Int32)).2)  (45 : Int32)).2)  (h7_X6_takes ((sp_X6_takes μ  (44 : Int32)).2) (45 : Int32)  (h7_X6_takes μ (44 : Int32)  hh)))))) (h7_ite (h7_lf (h7_pM (c := 6) (by decide) (h7_X6_parsedDigits ((sp_X6_takes ((sp_X6_takes μ  (44 : Int32)).2)  (45 : Int32)).2)  (h7_X6_takes ((sp_X6_takes μ  (44 : Int32)).2) (45 : Int32)  (h7_X6_takes μ (44 : Int32)  hh))))) (h7_lf (h7_pM (c := 6) (by decide) (h7_X6_parsedDigits ((sp_X6_takes ((sp_X6_takes μ  (44 : Int32)).2)  (45 : Int32)).2)  (h7_X6_takes ((sp_X6_takes μ  (44 : Int32)).2) (45 : Int32)  (h7_X6_takes μ (44 : Int32)  hh))))))) (h7_ite (h7_lf (h7_pM (c := 6) (by decide) (h7_X6_parsedDigits ((sp_X6_takes μ  (44 : Int32)).2)  (h7_X6_takes μ (44 : Int32)  hh)))) (h7_lf (h7_pM (c := 6) (by decide) (h7_X6_parsedDigits ((sp_X6_takes μ  (44 : Int32)).2)  (h7_X6_takes μ (44 : Int32)  hh)))))))
theorem h7_X6_parse {M0 : Nat → Nat → Int32} (μ : Mu)  (w : Int32)  (hh : H7 M0 μ) : H7 M0 ((sp_X6_parse μ w).2) := by
  unfold sp_X6_parse
  exact (h7_ite (h7_lf (h7_X6_takes (pM (pM μ 6 4 (sp_X6_characterAt (μ.1 6)  w)) 6 7 (w + 1)) (59 : Int32)  (h7_pM (c := 6) (by decide) (h7_pM (c := 6) (by decide) hh)))) (h7_ite (h7_ite (h7_ite (h7_lf (h7_X6_takes (pM ((sp_X6_parsedDigits (pM (pM μ 6 4 (sp_X6_characterAt (μ.1 6)  w)) 6 7 (w + 1))  ).2) 6 5 ((sp_X6_parsedDigits (pM (pM μ 6 4 (sp_X6_characterAt (μ.1 6)  w)) 6 7 (w + 1))  ).1)) (59 : Int32)  (h7_pM (c := 6) (by decide) (h7_X6_parsedDigits (pM (pM μ 6 4 (sp_X6_characterAt (μ.1 6)  w)) 6 7 (w + 1))  (h7_pM (c := 6) (by decide) (h7_pM (c := 6) (by decide) hh)))))) (h7_ite (h7_lf (h7_X6_parsesNumber (pM ((sp_X6_parsedDigits (pM (pM μ 6 4 (sp_X6_characterAt (μ.1 6)  w)) 6 7 (w + 1))  ).2) 6 5 ((sp_X6_parsedDigits (pM (pM μ 6 4 (sp_X6_characterAt (μ.1 6)  w)) 6 7 (w + 1))  ).1))  (h7_pM (c := 6) (by decide) (h7_X6_parsedDigits (pM (pM μ 6 4 (sp_X6_characterAt (μ.1 6)  w)) 6 7 (w + 1))  (h7_pM (c := 6) (by decide) (h7_pM (c := 6) (by decide) hh)))))) (h7_ite (h7_lf (h7_X6_takes ((sp_X6_parsesNumber (pM ((sp_X6_parsedDigits (pM (pM μ 6 4 (sp_X6_characterAt (μ.1 6)  w)) 6 7 (w + 1))  ).2) 6 5 ((sp_X6_parsedDigits (pM (pM μ 6 4 (sp_X6_characterAt (μ.1 6)  w)) 6 7 (w + 1))  ).1))  ).2) (59 : Int32)  (h7_X6_parsesNumber (pM ((sp_X6_parsedDigits (pM (pM μ 6 4 (sp_X6_characterAt (μ.1 6)  w)) 6 7 (w + 1))  ).2) 6 5 ((sp_X6_parsedDigits (pM (pM μ 6 4 (sp_X6_characterAt (μ.1 6)  w)) 6 7 (w + 1))  ).1))  (h7_pM (c := 6) (by decide) (h7_X6_parsedDigits (pM (pM μ 6 4 (sp_X6_characterAt (μ.1 6)  w)) 6 7 (w + 1))  (h7_pM (c := 6) (by decide) (h7_pM (c := 6) (by decide) hh))))))) (h7_lf (h7_X6_takes ((sp_X6_parsesNumber (pM ((sp_X6_parsedDigits (pM (pM μ 6 4 (sp_X6_characterAt (μ.1 6)  w)) 6 7 (w + 1))  ).2) 6 5 ((sp_X6_parsedDigits (pM (pM μ 6 4 (sp_X6_characterAt (μ.1 6)  w)) 6 7 (w + 1))  ).1))  ).2) (59 : Int32)  (h7_X6_parsesNumber (pM ((sp_X6_parsedDigits (pM (pM μ 6 4 (sp_X6_characterAt (μ.1 6)  w)) 6 7 (w + 1))  ).2) 6 5 ((sp_X6_parsedDigits (pM (pM μ 6 4 (sp_X6_characterAt (μ.1 6)  w)) 6 7 (w + 1))  ).1))  (h7_pM (c := 6) (by decide) (h7_X6_parsedDigits (pM (pM μ 6 4 (sp_X6_characterAt (μ.1 6)  w)) 6 7 (w + 1))  (h7_pM (c := 6) (by decide) (h7_pM (c := 6) (by decide) hh)))))))))) (h7_lf (h7_pM (c := 6) (by decide) (h7_X6_parsedDigits (pM (pM μ 6 4 (sp_X6_characterAt (μ.1 6)  w)) 6 7 (w + 1))  (h7_pM (c := 6) (by decide) (h7_pM (c := 6) (by decide) hh)))))) (h7_ite (h7_ite (h7_ite (h7_lf (h7_X6_takes (pM ((sp_X6_parsedDigits (pM (pM μ 6 4 (sp_X6_characterAt (μ.1 6)  w)) 6 7 (w + 1))  ).2) 6 5 ((sp_X6_parsedDigits (pM (pM μ 6 4 (sp_X6_characterAt (μ.1 6)  w)) 6 7 (w + 1))  ).1)) (59 : Int32)  (h7_pM (c := 6) (by decide) (h7_X6_parsedDigits (pM (pM μ 6 4 (sp_X6_characterAt (μ.1 6)  w)) 6 7 (w + 1))  (h7_pM (c := 6) (by decide) (h7_pM (c := 6) (by decide) hh)))))) (h7_ite (h7_lf (h7_X6_parsesNumber (pM ((sp_X6_parsedDigits (pM (pM μ 6 4 (sp_X6_characterAt (μ.1 6)  w)) 6 7 (w + 1))  ).2) 6 5 ((sp_X6_parsedDigits (pM (pM μ 6 4 (sp_X6_characterAt (μ.1 6)  w)) 6 7 (w + 1))  ).1))  (h7_pM (c := 6) (by decide) (h7_X6_parsedDigits (pM (pM μ 6 4 (sp_X6_characterAt (μ.1 6)  w)) 6 7 (w + 1))  (h7_pM (c := 6) (by decide) (h7_pM (c := 6) (by decide) hh)))))) (h7_ite (h7_lf (h7_X6_takes ((sp_X6_parsesNumber (pM ((sp_X6_parsedDigits (pM (pM μ 6 4 (sp_X6_characterAt (μ.1 6)  w)) 6 7 (w + 1))  ).2) 6 5 ((sp_X6_parsedDigits (pM (pM μ 6 4 (sp_X6_characterAt (μ.1 6)  w)) 6 7 (w + 1))  ).1))  ).2) (59 : Int32)  (h7_X6_parsesNumber (pM ((sp_X6_parsedDigits (pM (pM μ 6 4 (sp_X6_characterAt (μ.1 6)  w)) 6 7 (w + 1))  ).2) 6 5 ((sp_X6_parsedDigits (pM (pM μ 6 4 (sp_X6_characterAt (μ.1 6)  w)) 6 7 (w + 1))  ).1))  (h7_pM (c := 6) (by decide) (h7_X6_parsedDigits (pM (pM μ 6 4 (sp_X6_characterAt (μ.1 6)  w)) 6 7 (w + 1))  (h7_pM (c := 6) (by decide) (h7_pM (c := 6) (by decide) hh))))))) (h7_lf (h7_X6_takes ((sp_X6_parsesNumber (pM ((sp_X6_parsedDigits (pM (pM μ 6 4 (sp_X6_characterAt (μ.1 6)  w)) 6 7 (w + 1))  ).2) 6 5 ((sp_X6_parsedDigits (pM (pM μ 6 4 (sp_X6_characterAt (μ.1 6)  w)) 6 7 (w + 1))  ).1))  ).2) (59 : Int32)  (h7_X6_parsesNumber (pM ((sp_X6_parsedDigits (pM (pM μ 6 4 (sp_X6_characterAt (μ.1 6)  w)) 6 7 (w + 1))  ).2) 6 5 ((sp_X6_parsedDigits (pM (pM μ 6 4 (sp_X6_characterAt (μ.1 6)  w)) 6 7 (w + 1))  ).1))  (h7_pM (c := 6) (by decide) (h7_X6_parsedDigits (pM (pM μ 6 4 (sp_X6_characterAt (μ.1 6)  w)) 6 7 (w + 1))  (h7_pM (c := 6) (by decide) (h7_pM (c := 6) (by decide) hh)))))))))) (h7_lf (h7_pM (c := 6) (by decide) (h7_X6_parsedDigits (pM (pM μ 6 4 (sp_X6_characterAt (μ.1 6)  w)) 6 7 (w + 1))  (h7_pM (c := 6) (by decide) (h7_pM (c := 6) (by decide) hh)))))) (h7_ite (h7_ite (h7_ite (h7_lf (h7_X6_takes (pM ((sp_X6_parsedDigits (pM (pM μ 6 4 (sp_X6_characterAt (μ.1 6)  w)) 6 7 (w + 1))  ).2) 6 5 ((sp_X6_parsedDigits (pM (pM μ 6 4 (sp_X6_characterAt (μ.1 6)  w)) 6 7 (w + 1))  ).1)) (59 : Int32)  (h7_pM (c := 6) (by decide) (h7_X6_parsedDigits (pM (pM μ 6 4 (sp_X6_characterAt (μ.1 6)  w)) 6 7 (w + 1))  (h7_pM (c := 6) (by decide) (h7_pM (c := 6) (by decide) hh)))))) (h7_ite (h7_lf (h7_X6_parsesNumber (pM ((sp_X6_parsedDigits (pM (pM μ 6 4 (sp_X6_characterAt (μ.1 6)  w)) 6 7 (w + 1))  ).2) 6 5 ((sp_X6_parsedDigits (pM (pM μ 6 4 (sp_X6_characterAt (μ.1 6)  w)) 6 7 (w + 1))  ).1))  (h7_pM (c := 6) (by decide) (h7_X6_parsedDigits (pM (pM μ 6 4 (sp_X6_characterAt (μ.1 6)  w)) 6 7 (w + 1))  (h7_pM (c := 6) (by decide) (h7_pM (c := 6) (by decide) hh)))))) (h7_ite (h7_lf (h7_X6_takes ((sp_X6_parsesNumber (pM ((sp_X6_parsedDigits (pM (pM μ 6 4 (sp_X6_characterAt (μ.1 6)  w)) 6 7 (w + 1))  ).2) 6 5 ((sp_X6_parsedDigits (pM (pM μ 6 4 (sp_X6_characterAt (μ.1 6)  w)) 6 7 (w + 1))  ).1))  ).2) (59 : Int32)  (h7_X6_parsesNumber (pM ((sp_X6_parsedDigits (pM (pM μ 6 4 (sp_X6_characterAt (μ.1 6)  w)) 6 7 (w + 1))  ).2) 6 5 ((sp_X6_parsedDigits (pM (pM μ 6 4 (sp_X6_characterAt (μ.1 6)  w)) 6 7 (w + 1))  ).1))  (h7_pM (c := 6) (by decide) (h7_X6_parsedDigits (pM (pM μ 6 4 (sp_X6_characterAt (μ.1 6)  w)) 6 7 (w + 1))  (h7_pM (c := 6) (by decide) (h7_pM (c := 6) (by decide) hh))))))) (h7_lf (h7_X6_takes ((sp_X6_parsesNumber (pM ((sp_X6_parsedDigits (pM (pM μ 6 4 (sp_X6_characterAt (μ.1 6)  w)) 6 7 (w + 1))  ).2) 6 5 ((sp_X6_parsedDigits (pM (pM μ 6 4 (sp_X6_characterAt (μ.1 6)  w)) 6 7 (w + 1))  ).1))  ).2) (59 : Int32)  (h7_X6_parsesNumber (pM ((sp_X6_parsedDigits (pM (pM μ 6 4 (sp_X6_characterAt (μ.1 6)  w)) 6 7 (w + 1))  ).2) 6 5 ((sp_X6_parsedDigits (pM (pM μ 6 4 (sp_X6_characterAt (μ.1 6)  w)) 6 7 (w + 1))  ).1))  (h7_pM (c := 6) (by decide) (h7_X6_parsedDigits (pM (pM μ 6 4 (sp_X6_characterAt (μ.1 6)  w)) 6 7 (w + 1))  (h7_pM (c := 6) (by decide) (h7_pM (c := 6) (by decide) hh)))))))))) (h7_lf (h7_pM (c := 6) (by decide) (h7_X6_parsedDigits (pM (pM μ 6 4 (sp_X6_characterAt (μ.1 6)  w)) 6 7 (w + 1))  (h7_pM (c := 6) (by decide) (h7_pM (c := 6) (by decide) hh)))))) (h7_ite (h7_ite (h7_ite (h7_lf (h7_X6_takes (pM ((sp_X6_parsedDigits (pM (pM μ 6 4 (sp_X6_characterAt (μ.1 6)  w)) 6 7 (w + 1))  ).2) 6 5 ((sp_X6_parsedDigits (pM (pM μ 6 4 (sp_X6_characterAt (μ.1 6)  w)) 6 7 (w + 1))  ).1)) (59 : Int32)  (h7_pM (c := 6) (by decide) (h7_X6_parsedDigits (pM (pM μ 6 4 (sp_X6_characterAt (μ.1 6)  w)) 6 7 (w + 1))  (h7_pM (c := 6) (by decide) (h7_pM (c := 6) (by decide) hh)))))) (h7_ite (h7_lf (h7_X6_parsesNumber (pM ((sp_X6_parsedDigits (pM (pM μ 6 4 (sp_X6_characterAt (μ.1 6)  w)) 6 7 (w + 1))  ).2) 6 5 ((sp_X6_parsedDigits (pM (pM μ 6 4 (sp_X6_characterAt (μ.1 6)  w)) 6 7 (w + 1))  ).1))  (h7_pM (c := 6) (by decide) (h7_X6_parsedDigits (pM (pM μ 6 4 (sp_X6_characterAt (μ.1 6)  w)) 6 7 (w + 1))  (h7_pM (c := 6) (by decide) (h7_pM (c := 6) (by decide) hh)))))) (h7_ite (h7_lf (h7_X6_takes ((sp_X6_parsesNumber (pM ((sp_X6_parsedDigits (pM (pM μ 6 4 (sp_X6_characterAt (μ.1 6)  w)) 6 7 (w + 1))  ).2) 6 5 ((sp_X6_parsedDigits (pM (pM μ 6 4 (sp_X6_characterAt (μ.1 6)  w)) 6 7 (w + 1))  ).1))  ).2) (59 : Int32)  (h7_X6_parsesNumber (pM ((sp_X6_parsedDigits (pM (pM μ 6 4 (sp_X6_characterAt (μ.1 6)  w)) 6 7 (w + 1))  ).2) 6 5 ((sp_X6_parsedDigits (pM (pM μ 6 4 (sp_X6_characterAt (μ.1 6)  w)) 6 7 (w + 1))  ).1))  (h7_pM (c := 6) (by decide) (h7_X6_parsedDigits (pM (pM μ 6 4 (sp_X6_characterAt (μ.1 6)  w)) 6 7 (w + 1))  (h7_pM (c := 6) (by decide) (h7_pM (c := 6) (by decide) hh))))))) (h7_lf (h7_X6_takes ((sp_X6_parsesNumber (pM ((sp_X6_parsedDigits (pM (pM μ 6 4 (sp_X6_characterAt (μ.1 6)  w)) 6 7 (w + 1))  ).2) 6 5 ((sp_X6_parsedDigits (pM (pM μ 6 4 (sp_X6_characterAt (μ.1 6)  w)) 6 7 (w + 1))  ).1))  ).2) (59 : Int32)  (h7_X6_parsesNumber (pM ((sp_X6_parsedDigits (pM (pM μ 6 4 (sp_X6_characterAt (μ.1 6)  w)) 6 7 (w + 1))  ).2) 6 5 ((sp_X6_parsedDigits (pM (pM μ 6 4 (sp_X6_characterAt (μ.1 6)  w)) 6 7 (w + 1))  ).1))  (h7_pM (c := 6) (by decide) (h7_X6_parsedDigits (pM (pM μ 6 4 (sp_X6_characterAt (μ.1 6)  w)) 6 7 (w + 1))  (h7_pM (c := 6) (by decide) (h7_pM (c := 6) (by decide) hh)))))))))) (h7_lf (h7_pM (c := 6) (by decide) (h7_X6_parsedDigits (pM (pM μ 6 4 (sp_X6_characterAt (μ.1 6)  w)) 6 7 (w + 1))  (h7_pM (c := 6) (by decide) (h7_pM (c := 6) (by decide) hh)))))) (h7_lf (h7_pM (c := 6) (by decide) (h7_pM (c := 6) (by decide) hh))))))))
theorem h7_X6_append {M0 : Nat → Nat → Int32} (μ : Mu)  (a : Int32)  (hh : H7 M0 μ) : H7 M0 ((sp_X6_append μ a)) := by
  unfold sp_X6_append
  exact (h7_iteM hh (h7_iteM hh (h7_pM (c := 6) (by decide) (h7_pM (c := 6) (by decide) hh))))
theorem h7_X7_obeyBath {M0 : Nat → Nat → Int32} (μ : Mu) (n : Nat)   (hh : H7 M0 μ) : H7 M0 ((sp_X7_obeyBath μ n).2) := by
  unfold sp_X7_obeyBath
  exact (h7_ite (h7_lf hh) (h7_lf (h7_pM (c := 1) (by decide) hh)))
theorem h7_X7_obeyCut {M0 : Nat → Nat → Int32} (μ : Mu) (n : Nat)   (hh : H7 M0 μ) : H7 M0 ((sp_X7_obeyCut μ n).2) := by
  unfold sp_X7_obeyCut
  exact (h7_ite (h7_ite (h7_ite (h7_lf hh) (h7_lf (h7_X3_turnWire μ 1 n (μ.1 6 6)  (by omega) hh))) (h7_ite (h7_lf (h7_X3_turnWire μ 1 n (μ.1 6 6)  (by omega) hh)) (h7_lf hh))) (h7_lf hh))
theorem h7_X7_obey {M0 : Nat → Nat → Int32} (μ : Mu)    (hh : H7 M0 μ) : H7 M0 ((sp_X7_obey μ ).2) := by
  unfold sp_X7_obey
  exact (h7_ite (h7_oc (h7_lf hh) (fun t15 => (h7_ite (h7_lf (h7_X7_obeyBath μ t15  hh)) (h7_ite (h7_lf (h7_X7_obeyCut μ t15  hh)) (h7_ite (h7_lf (h7_X7_obeyCut μ t15  hh)) (h7_ite (h7_lf (h7_X3_log (msr (pM μ 1 2 (μ.1 1 (sF t15 6))) 1 t15) 1 t15 (rdg ((pM μ 1 2 (μ.1 1 (sF t15 6))).1 1) t15)  (by omega) (h7_msr (h7_pM (c := 1) (by decide) hh)))) (h7_lf (h7_msr (h7_pM (c := 1) (by decide) hh))))))))) (h7_oc (h7_lf hh) (fun t4 => (h7_ite (h7_lf (h7_X7_obeyBath μ t4  hh)) (h7_ite (h7_lf (h7_X7_obeyCut μ t4  hh)) (h7_ite (h7_lf (h7_X7_obeyCut μ t4  hh)) (h7_ite (h7_lf (h7_X3_log (msr μ 1 t4) 1 t4 (rdg (μ.1 1) t4)  (by omega) (h7_msr hh))) (h7_lf (h7_msr hh)))))))))
theorem h7_lp_X7_insertSorted_2 {M0 : Nat → Nat → Int32} (μ : Mu)  (v : Int32) (k0 : Nat)  (f : Nat) : ∀ (k : Nat) (μ1 : Mu), H7 M0 μ1 → H7 M0 ((lp_X7_insertSorted_2 μ v k0  f k μ1)) := by
  induction f with
  | zero => intro k μ1 h1; exact h1
  | succ f ih =>
    intro k μ1 h1
    unfold lp_X7_insertSorted_2
    exact (h7_iteM (h7_iteM h1 (h7_iteM h1 (h7_pM (c := 6) (by decide) h1))) (h7_iteM (h7_iteM h1 (h7_iteM h1 (h7_pM (c := 6) (by decide) h1))) (h7_iteM (h7_iteM h1 (h7_iteM h1 (h7_pM (c := 6) (by decide) h1))) (ih _ _ (h7_pM (c := 6) (by decide) h1)))))
theorem h7_X7_insertSorted {M0 : Nat → Nat → Int32} (μ : Mu)  (v : Int32) (k0 : Nat)  (hh : H7 M0 μ) : H7 M0 ((sp_X7_insertSorted μ v k0)) := by
  unfold sp_X7_insertSorted
  exact (h7_lp_X7_insertSorted_2 _ _ _ _ _ _ hh)
theorem h7_lp_X7_median_43 {M0 : Nat → Nat → Int32} (μ : Mu)  (a : Int32) (t2 : Nat) (f : Nat) : ∀ (k : Nat) (μ1 : Mu), H7 M0 μ1 → H7 M0 ((lp_X7_median_43 μ a t2 f k μ1).2) := by
  induction f with
  | zero => intro k μ1 h1; exact h1
  | succ f ih =>
    intro k μ1 h1
    unfold lp_X7_median_43
    exact (h7_ite (h7_ite (h7_lf h1) (h7_ite (h7_lf h1) (h7_lf h1))) (h7_ite (h7_ite (h7_lf h1) (h7_ite (h7_lf h1) (h7_lf h1))) (ih _ _ (h7_X7_insertSorted μ1 (sp_X3_reading ((μ1).1 0) t2 (nI k)) k  h1))))
theorem h7_X7_median {M0 : Nat → Nat → Int32} (μ : Mu)  (a : Int32)  (hh : H7 M0 μ) : H7 M0 ((sp_X7_median μ a).2) := by
  unfold sp_X7_median
  exact (h7_oc (h7_lf hh) (fun t2 => (h7_ite (h7_lf hh) (h7_lp_X7_median_43 _ _ _ _ _ _ hh))))
theorem h7_X7_counts {M0 : Nat → Nat → Int32} (μ : Mu)  (a : Int32) (cu : Int32) (lp : Int32) (wy : Int32)  (hh : H7 M0 μ) : H7 M0 ((sp_X7_counts μ a cu lp wy).2) := by
  unfold sp_X7_counts
  exact (h7_oc (h7_lf hh) (fun t2 => (h7_ite (h7_ite (h7_ite (h7_ite (h7_ite (h7_ite (h7_ite (h7_ite (h7_lf (h7_tk hh)) (h7_ite (h7_lf (h7_tk hh)) (h7_lf (h7_tk hh)))) (h7_ite (h7_lf (h7_tk hh)) (h7_ite (h7_lf (h7_tk hh)) (h7_lf (h7_tk hh))))) (h7_ite (h7_ite (h7_lf (h7_tk hh)) (h7_ite (h7_lf (h7_tk hh)) (h7_lf (h7_tk hh)))) (h7_ite (h7_lf (h7_tk hh)) (h7_ite (h7_lf (h7_tk hh)) (h7_lf (h7_tk hh)))))) (h7_lf hh)) (h7_ite (h7_ite (h7_ite (h7_lf (h7_tk hh)) (h7_ite (h7_lf (h7_tk hh)) (h7_lf (h7_tk hh)))) (h7_ite (h7_lf (h7_tk hh)) (h7_ite (h7_lf (h7_tk hh)) (h7_lf (h7_tk hh))))) (h7_ite (h7_ite (h7_lf (h7_tk hh)) (h7_ite (h7_lf (h7_tk hh)) (h7_lf (h7_tk hh)))) (h7_ite (h7_lf (h7_tk hh)) (h7_ite (h7_lf (h7_tk hh)) (h7_lf (h7_tk hh))))))) (h7_lf hh)) (h7_lf hh)) (h7_lf hh))))
theorem h7_X7_ohms {M0 : Nat → Nat → Int32} (μ : Mu)  (a : Int32) (b : Int32)  (hh : H7 M0 μ) : H7 M0 ((sp_X7_ohms μ a b).2) := by
  unfold sp_X7_ohms
  exact (h7_oc (h7_lf hh) (fun t2 => (h7_ite (h7_ite (h7_lf (h7_msr hh)) (h7_ite (h7_lf (h7_msr hh)) (h7_ite (h7_lf (h7_msr hh)) (h7_ite (h7_lf (h7_msr hh)) (h7_ite (h7_lf (h7_msr hh)) (h7_lf (h7_msr hh))))))) (h7_lf hh))))
theorem h7_X7_diagnosis {M0 : Nat → Nat → Int32} (μ : Mu)  (a : Int32)  (hh : H7 M0 μ) : H7 M0 ((sp_X7_diagnosis μ a).2) := by
  unfold sp_X7_diagnosis
  exact (h7_oc (h7_lf hh) (fun t2 => (h7_lf (h7_msr hh))))
theorem h7_X7_type {M0 : Nat → Nat → Int32} (μ : Mu)  (a : Int32)  (hh : H7 M0 μ) : H7 M0 ((sp_X7_type μ a).2) := by
  unfold sp_X7_type
  exact (h7_ite (h7_ite (h7_lf (h7_X6_append μ ((a.toUInt32 % 65536).toInt32)  hh)) (h7_lf hh)) (h7_lf hh))
theorem h7_X7_clearText {M0 : Nat → Nat → Int32} (μ : Mu)    (hh : H7 M0 μ) : H7 M0 ((sp_X7_clearText μ ).2) := by
  unfold sp_X7_clearText
  exact (h7_lf (h7_pM (c := 6) (by decide) hh))
theorem h7_lp_X7_tryOrders_28 {M0 : Nat → Nat → Int32} (μ : Mu)    (f : Nat) : ∀ (k : Nat) (μ1 : Mu), H7 M0 μ1 → H7 M0 ((lp_X7_tryOrders_28 μ   f k μ1)) := by
  induction f with
  | zero => intro k μ1 h1; exact h1
  | succ f ih =>
    intro k μ1 h1
    unfold lp_X7_tryOrders_28
    exact (h7_iteM h1 (h7_iteM h1 (h7_iteM (h7_pM (c := 6) (by decide) (h7_X6_parse μ1 ((μ1).1 6 77)  h1)) (h7_iteM (ih _ _ (h7_pM (c := 6) (by decide) (h7_pM (c := 6) (by decide) (h7_pM (c := 6) (by decide) (h7_X7_obey ((sp_X6_parse μ1  ((μ1).1 6 77)).2)  (h7_X6_parse μ1 ((μ1).1 6 77)  h1)))))) (h7_pM (c := 6) (by decide) (h7_X7_obey ((sp_X6_parse μ1  ((μ1).1 6 77)).2)  (h7_X6_parse μ1 ((μ1).1 6 77)  h1)))))))
theorem h7_X7_tryOrders {M0 : Nat → Nat → Int32} (μ : Mu)    (hh : H7 M0 μ) : H7 M0 ((sp_X7_tryOrders μ )) := by
  unfold sp_X7_tryOrders
  exact (h7_lp_X7_tryOrders_28 _ _ _ _ (h7_pM (c := 6) (by decide) (h7_pM (c := 6) (by decide) (h7_pM (c := 6) (by decide) (h7_X4_copy μ 1 0  (by omega) hh)))))
theorem h7_X7_fault {M0 : Nat → Nat → Int32} (μ : Mu)  (a : Int32)  (hh : H7 M0 μ) : H7 M0 ((sp_X7_fault μ a).2) := by
  unfold sp_X7_fault
  exact (h7_ite (h7_ite (h7_lf (h7_X7_tryOrders μ  hh)) (h7_ite (h7_lf (h7_X7_tryOrders μ  hh)) (h7_lf (h7_X7_tryOrders μ  hh)))) (h7_lf hh))
theorem h7_X7_undo {M0 : Nat → Nat → Int32} (μ : Mu)    (hh : H7 M0 μ) : H7 M0 ((sp_X7_undo μ ).2) := by
  unfold sp_X7_undo
  exact (h7_ite (h7_lf hh) (h7_lf (h7_X0_restore μ  hh)))
theorem h7_X7_table {M0 : Nat → Nat → Int32} (μ : Mu)   (hr : H7 M0 (sp_X0_record μ)) (hh : H7 M0 μ) : H7 M0 ((sp_X7_table μ ).2) := by
  unfold sp_X7_table
  exact (h7_ite (h7_lf (h7_pM (c := 0) (by decide) hr)) (h7_lf hh))
theorem h7_X7_node {M0 : Nat → Nat → Int32} (μ : Mu)  (a : Int32) (b : Int32) (w : Int32) (hr : H7 M0 (sp_X0_record μ)) (hh : H7 M0 μ) : H7 M0 ((sp_X7_node μ a b w).2) := by
  unfold sp_X7_node
  exact (h7_oc (h7_lf hh) (fun t2 => (h7_ite (h7_ite (h7_ite (h7_ite (h7_lf hh) (h7_ite (h7_lf (h7_X5_append (sp_X0_record μ  ) 0 t2 b w  (by omega) hr)) (h7_lf hh))) (h7_lf hh)) (h7_lf hh)) (h7_lf hh))))
theorem h7_X7_sensor {M0 : Nat → Nat → Int32} (μ : Mu)  (a : Int32) (b : Int32) (w : Int32) (hr : H7 M0 (sp_X0_record μ)) (hh : H7 M0 μ) : H7 M0 ((sp_X7_sensor μ a b w).2) := by
  unfold sp_X7_sensor
  exact (h7_oc (h7_lf hh) (fun t2 => (h7_ite (h7_ite (h7_ite (h7_ite (h7_oc (h7_lf (h7_pM (c := 0) (by decide) hr)) (fun t9 => (h7_lf (h7_X3_begin (pM (sp_X0_record μ  ) 0 1 (((sp_X0_record μ  ).1 0 1) + 1)) 0 t9 a b w (sp_X5_nearest ((pM (sp_X0_record μ  ) 0 1 (((sp_X0_record μ  ).1 0 1) + 1)).1 0) t2 (0 : Int32))  (by omega) (h7_pM (c := 0) (by decide) hr))))) (h7_lf hh)) (h7_lf hh)) (h7_lf hh)) (h7_lf hh))))
theorem h7_X7_plug {M0 : Nat → Nat → Int32} (μ : Mu)  (a : Int32) (b : Int32) (w : Int32) (hr : H7 M0 (sp_X0_record μ)) (hh : H7 M0 μ) : H7 M0 ((sp_X7_plug μ a b w).2) := by
  unfold sp_X7_plug
  exact (h7_oc (h7_lf hh) (fun t2 => (h7_ite (h7_ite (h7_lf hh) (h7_ite (h7_ite (h7_lf (h7_pM (c := 0) (by decide) hr)) (h7_lf hh)) (h7_lf hh))) (h7_lf hh))))
theorem h7_X7_unplug {M0 : Nat → Nat → Int32} (μ : Mu)  (a : Int32) (hr : H7 M0 (sp_X0_record μ)) (hh : H7 M0 μ) : H7 M0 ((sp_X7_unplug μ a).2) := by
  unfold sp_X7_unplug
  exact (h7_oc (h7_lf hh) (fun t2 => (h7_ite (h7_lf (h7_pM (c := 0) (by decide) hr)) (h7_lf hh))))
theorem h7_X7_bath {M0 : Nat → Nat → Int32} (μ : Mu)  (a : Int32) (b : Int32) (hr : H7 M0 (sp_X0_record μ)) (hh : H7 M0 μ) : H7 M0 ((sp_X7_bath μ a b).2) := by
  unfold sp_X7_bath
  exact (h7_oc (h7_lf hh) (fun t2 => (h7_ite (h7_ite (h7_lf hh) (h7_lf (h7_pM (c := 0) (by decide) hr))) (h7_lf hh))))
theorem h7_X7_lead {M0 : Nat → Nat → Int32} (μ : Mu)  (a : Int32) (b : Int32) (w : Int32) (hr : H7 M0 (sp_X0_record μ)) (hh : H7 M0 μ) : H7 M0 ((sp_X7_lead μ a b w).2) := by
  unfold sp_X7_lead
  exact (h7_oc (h7_lf hh) (fun t2 => (h7_ite (h7_ite (h7_lf (h7_X3_setLead (sp_X0_record μ  ) 0 t2 b w  (by omega) hr)) (h7_lf hh)) (h7_lf hh))))
theorem h7_X7_strain {M0 : Nat → Nat → Int32} (μ : Mu)  (a : Int32) (b : Int32) (w : Int32) (hr : H7 M0 (sp_X0_record μ)) (hh : H7 M0 μ) : H7 M0 ((sp_X7_strain μ a b w).2) := by
  unfold sp_X7_strain
  exact (h7_oc (h7_lf hh) (fun t2 => (h7_ite (h7_lf hh) (h7_lf (h7_X3_setStrain (sp_X0_record μ  ) 0 t2 b w  (by omega) hr)))))
theorem h7_X7_cut {M0 : Nat → Nat → Int32} (μ : Mu)  (a : Int32) (b : Int32) (w : Int32) (hr : H7 M0 (sp_X0_record μ)) (hh : H7 M0 μ) : H7 M0 ((sp_X7_cut μ a b w).2) := by
  unfold sp_X7_cut
  exact (h7_oc (h7_lf hh) (fun t2 => (h7_ite (h7_ite (h7_ite (h7_ite (h7_lf hh) (h7_lf (h7_X3_turnWire (sp_X0_record μ  ) 0 t2 b  (by omega) hr))) (h7_ite (h7_lf (h7_X3_turnWire (sp_X0_record μ  ) 0 t2 b  (by omega) hr)) (h7_lf hh))) (h7_lf hh)) (h7_lf hh))))
theorem h7_X7_drift {M0 : Nat → Nat → Int32} (μ : Mu)  (a : Int32) (b : Int32) (hr : H7 M0 (sp_X0_record μ)) (hh : H7 M0 μ) : H7 M0 ((sp_X7_drift μ a b).2) := by
  unfold sp_X7_drift
  exact (h7_oc (h7_lf hh) (fun t2 => (h7_ite (h7_ite (h7_lf (h7_pM (c := 0) (by decide) hr)) (h7_lf hh)) (h7_lf hh))))
theorem h7_X7_limits {M0 : Nat → Nat → Int32} (μ : Mu)  (a : Int32) (b : Int32) (d : Int32) (g : Int32) (hr : H7 M0 (sp_X0_record μ)) (hh : H7 M0 μ) : H7 M0 ((sp_X7_limits μ a b d g).2) := by
  unfold sp_X7_limits
  exact (h7_oc (h7_lf hh) (fun t2 => (h7_ite (h7_ite (h7_ite (h7_lf (h7_X3_watch (sp_X0_record μ  ) 0 t2 b d g  (by omega) hr)) (h7_lf hh)) (h7_lf hh)) (h7_lf hh))))
theorem h7_X7_set {M0 : Nat → Nat → Int32} (μ : Mu)  (a : Int32) (b : Int32) (hr : H7 M0 (sp_X0_record μ)) (hh : H7 M0 μ) : H7 M0 ((sp_X7_set μ a b).2) := by
  unfold sp_X7_set
  exact (h7_ite (h7_lf hh) (h7_lf (h7_X4_changeSetting (sp_X0_record μ  ) 0 a b  (by omega) hr)))
theorem h7_X7_scan {M0 : Nat → Nat → Int32} (μ : Mu)   (hr : H7 M0 (sp_X0_record μ)) (hh : H7 M0 μ) : H7 M0 ((sp_X7_scan μ ).2) := by
  unfold sp_X7_scan
  exact (h7_oc (h7_lf hh) (fun t2 => (h7_ite (h7_lf (h7_X3_log (msr (pM (sp_X0_record μ  ) 0 2 ((sp_X0_record μ  ).1 0 (sF t2 6))) 0 t2) 0 t2 (rdg ((pM (sp_X0_record μ  ) 0 2 ((sp_X0_record μ  ).1 0 (sF t2 6))).1 0) t2)  (by omega) (h7_msr (h7_pM (c := 0) (by decide) hr)))) (h7_lf (h7_msr (h7_pM (c := 0) (by decide) hr))))))
theorem h7_X7_calibrate {M0 : Nat → Nat → Int32} (μ : Mu)  (a : Int32) (b : Int32) (hm : ∀ t, H7 M0 (sp_X0_record (msr μ 0 t))) (hh : H7 M0 μ) : H7 M0 ((sp_X7_calibrate μ a b).2) := by
  unfold sp_X7_calibrate
  exact (h7_oc (h7_lf hh) (fun t2 => (h7_ite (h7_ite (h7_lf (h7_msr hh)) (h7_ite (h7_lf (h7_msr hh)) (h7_ite (h7_lf (h7_pM (c := 0) (by decide) (hm t2))) (h7_lf (h7_msr hh))))) (h7_lf hh))))
theorem h7_X7_read {M0 : Nat → Nat → Int32} (μ : Mu)  (a : Int32) (hm : ∀ t, H7 M0 (sp_X0_record (msr μ 0 t))) (hh : H7 M0 μ) : H7 M0 ((sp_X7_read μ a).2) := by
  unfold sp_X7_read
  exact (h7_oc (h7_lf hh) (fun t2 => (h7_ite (h7_lf (h7_X3_log (sp_X0_record (msr μ 0 t2)  ) 0 t2 ((sp_X0_record (msr μ 0 t2)  ).1 6 1)  (by omega) (hm t2))) (h7_lf (h7_msr hh)))))
theorem h7_X7_play {B : Nat} {μ : Mu} (h : Inv B μ) (hB : B + 61 < 2 ^ 30) : H7 μ.1 (sp_X7_play μ).2 := by
  obtain ⟨L, m0, -, fP, or0, res⟩ := try_ok h hB
  have h7 : H7 μ.1 (sp_X7_tryOrders μ) := h7_X7_tryOrders μ (fun _ _ => rfl)
  have hT := inv_P h fP
  unfold sp_X7_play
  split
  · exact fun c hc => ((cp_X4 (sp_X0_record (sp_X7_tryOrders μ)) (j := 0) (j2 := 1) (by omega)).2.1 c (by omega)).trans ((rec_7 hT hc).trans (h7 c hc))
  · exact h7
