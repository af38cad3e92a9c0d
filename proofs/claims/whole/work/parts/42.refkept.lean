/-! ===== the reference: what orders keep to ===== -/
/-- the settings and the tables; every sensor that there is -/
def RGA (m : Mu) : Prop := RG (m.1 8) ∧ ∀ n, n < (m.1 8 1).toNatClampNeg → RS (m.1 8) n
theorem rg_frame {g g' : Nat → Int32} (hG : RG g) (h : ∀ y, y < 85 → y ≠ 9 → g' y = g y) (hs : ∀ n, n < 6 → ni 3 (g' (85 + 29 * n + 0)) ∧ ni 10 (g' (85 + 29 * n + 19)) ∧ ni 5 (g' (85 + 29 * n + 1))) : RG g' := by
  obtain ⟨⟨i0, i1, i2, _⟩, hT, h2, h3, h4, h5⟩ := hG
  have eN : ∀ t, t < 3 → rN g' t = rN g t := fun t ht => by unfold rN; rw [h (10 + 25 * t) (by omega) (by omega)]
  have bN : ∀ t, t < 3 → rN g t < 13 := fun t ht => (i2 t ht).2
  refine ⟨⟨by rw [h 0 (by decide) (by decide)]; exact i0, by rw [h 1 (by decide) (by decide)]; exact i1, fun t ht => by rw [h (10 + 25 * t) (by omega) (by omega)]; exact i2 t ht, hs⟩, fun t ht => ?_, by rw [h 2 (by decide) (by decide)]; exact h2, by rw [h 3 (by decide) (by decide)]; exact h3, by rw [h 4 (by decide) (by decide)]; exact h4, by rw [h 5 (by decide) (by decide)]; exact h5⟩
  obtain ⟨⟨a1, a2⟩, b1, b2⟩ := hT t ht
  have e := eN t ht
  have b := bN t ht
  refine ⟨⟨fun k hk => ?_, fun k hk => ?_⟩, fun k hk => ?_, fun k hk => ?_⟩
  · rw [e] at hk; rw [h (11 + 25 * t + k) (by omega) (by omega), h (11 + 25 * t + (k + 1)) (by omega) (by omega)]; exact a1 k hk
  · rw [e] at hk; rw [h (11 + 25 * t + k) (by omega) (by omega)]; exact a2 k hk
  · rw [e] at hk; rw [h (23 + 25 * t + k) (by omega) (by omega), h (23 + 25 * t + (k + 1)) (by omega) (by omega)]; exact b1 k hk
  · rw [e] at hk; rw [h (23 + 25 * t + k) (by omega) (by omega)]; exact b2 k hk
theorem rs_frame {g g' : Nat → Int32} {n : Nat} (hI : RI g) (hS : RS g n) (h : ∀ y, y < 85 → y ≠ 9 → g' y = g y) (e0 : g' (85 + 29 * n + 0) = g (85 + 29 * n + 0)) (e2 : g' (85 + 29 * n + 2) = g (85 + 29 * n + 2)) (e3 : g' (85 + 29 * n + 3) = g (85 + 29 * n + 3)) (e9 : g' (85 + 29 * n + 9) = g (85 + 29 * n + 9)) (h4 : (g (11 + 25 * (oN g n) + 0)).toInt ≤ (g' (85 + 29 * n + 4)).toInt ∧ (g' (85 + 29 * n + 4)).toInt ≤ (rL g (oN g n)).toInt) : RS g' n := by
  obtain ⟨hn, s1, s2, s3, s4, s5⟩ := hS
  have eo : oN g' n = oN g n := by unfold oN; rw [e0]
  have ho : oN g n < 3 := (hI.2.2.2 n hn).1.2
  have eN : rN g' (oN g n) = rN g (oN g n) := by unfold rN; rw [h (10 + 25 * oN g n) (by omega) (by omega)]
  have hN : rN g (oN g n) < 13 := (hI.2.2.1 _ ho).2
  have eL : rL g' (oN g n) = rL g (oN g n) := by unfold rL; rw [eN, h (11 + 25 * oN g n + (rN g (oN g n) - 1)) (by omega) (by omega)]
  refine ⟨hn, ?_, ?_, ?_, ?_, ?_⟩
  · rw [eo, eN]; exact s1
  · rw [eo, eL, h (11 + 25 * oN g n + 0) (by omega) (by omega)]; exact h4
  · rw [e2]; exact s3
  · rw [e3]; exact s4
  · rw [e9]; exact s5
theorem w8_ne {m : Mu} {k : Nat} {v : Int32} {y : Nat} (hy : y ≠ k) : (pM m 8 k v).1 8 y = m.1 8 y := by simp [pM, upM, hy]
theorem w8_eq {m : Mu} {k : Nat} {v : Int32} : (pM m 8 k v).1 8 k = v := by simp [pM, upM]
theorem rga_w {m : Mu} {n w : Nat} {v : Int32} (hw : w < 29) (h' : w ≠ 0 ∧ w ≠ 1 ∧ w ≠ 2 ∧ w ≠ 3 ∧ w ≠ 4 ∧ w ≠ 9 ∧ w ≠ 19) (h : RGA m) : RGA (pM m 8 (85 + 29 * n + w) v) := by
  refine ⟨rg_frame h.1 (fun y hy _ => w8_ne (by omega)) (fun k hk => ?_), fun k hk => ?_⟩
  · rw [w8_ne (y := 85 + 29 * k + 0) (by omega), w8_ne (y := 85 + 29 * k + 19) (by omega), w8_ne (y := 85 + 29 * k + 1) (by omega)]; exact h.1.1.2.2.2 k hk
  · rw [w8_ne (y := 1) (by omega)] at hk
    have s := h.2 k hk
    exact rs_frame h.1.1 s (fun y hy _ => w8_ne (by omega)) (w8_ne (by omega)) (w8_ne (by omega)) (w8_ne (by omega)) (w8_ne (by omega)) (by rw [w8_ne (y := 85 + 29 * k + 4) (by omega)]; exact s.2.2.1)
theorem rga_19 {m : Mu} {n : Nat} {v : Int32} (hv : ni 10 v) (h : RGA m) : RGA (pM m 8 (85 + 29 * n + 19) v) := by
  refine ⟨rg_frame h.1 (fun y hy _ => w8_ne (by omega)) (fun k hk => ?_), fun k hk => ?_⟩
  · rw [w8_ne (y := 85 + 29 * k + 0) (by omega), w8_ne (y := 85 + 29 * k + 1) (by omega)]
    have q := h.1.1.2.2.2 k hk
    refine ⟨q.1, ?_, q.2.2⟩
    by_cases e : k = n
    · subst e; rw [w8_eq]; exact hv
    · rw [w8_ne (by omega)]; exact q.2.1
  · rw [w8_ne (y := 1) (by omega)] at hk
    have s := h.2 k hk
    exact rs_frame h.1.1 s (fun y hy _ => w8_ne (by omega)) (w8_ne (by omega)) (w8_ne (by omega)) (w8_ne (by omega)) (w8_ne (by omega)) (by rw [w8_ne (y := 85 + 29 * k + 4) (by omega)]; exact s.2.2.1)
theorem rga_4 {m : Mu} {n : Nat} {b : Int32} (h1 : m.1 8 (11 + 25 * (oN (m.1 8) n) + 0) ≤ b) (h2 : b ≤ rL (m.1 8) (oN (m.1 8) n)) (h : RGA m) : RGA (pM m 8 (85 + 29 * n + 4) b) := by
  rw [Int32.le_iff_toInt_le] at h1 h2
  refine ⟨rg_frame h.1 (fun y hy _ => w8_ne (by omega)) (fun k hk => ?_), fun k hk => ?_⟩
  · rw [w8_ne (y := 85 + 29 * k + 0) (by omega), w8_ne (y := 85 + 29 * k + 19) (by omega), w8_ne (y := 85 + 29 * k + 1) (by omega)]; exact h.1.1.2.2.2 k hk
  · rw [w8_ne (y := 1) (by omega)] at hk
    have s := h.2 k hk
    refine rs_frame h.1.1 s (fun y hy _ => w8_ne (by omega)) (w8_ne (by omega)) (w8_ne (by omega)) (w8_ne (by omega)) (w8_ne (by omega)) ?_
    by_cases e : k = n
    · subst e; rw [w8_eq]; exact ⟨h1, h2⟩
    · rw [w8_ne (by omega)]; exact s.2.2.1
theorem rga_9 {m : Mu} {v : Int32} (h : RGA m) : RGA (pM m 8 9 v) := ⟨rg_9 h.1, rs_9 h.2⟩
theorem rga_pM {m : Mu} {c k : Nat} {v : Int32} (hc : c ≠ 8) (h : RGA m) : RGA (pM m c k v) := by
  unfold RGA at h ⊢
  rw [pM_row (Ne.symm hc)]; exact h
theorem rga_pC {m : Mu} {c b c' b' n : Nat} (hc : c ≠ 8) (h : RGA m) : RGA (pC m c b c' b' n) := by
  unfold RGA at h ⊢
  rw [pC_row (Ne.symm hc)]; exact h
theorem rga_lf {v : Int32} {m : Mu} (h : RGA m) : RGA ((v, m).2) := h
theorem rga_ite {P : Prop} [Decidable P] {a b : Int32 × Mu} (ha : RGA a.2) (hb : RGA b.2) : RGA (if P then a else b).2 := by
  split
  · exact ha
  · exact hb
theorem rga_iteM {P : Prop} [Decidable P] {a b : Mu} (ha : RGA a) (hb : RGA b) : RGA (if P then a else b) := by
  split
  · exact ha
  · exact hb
theorem rga_oc {o : Option Nat} {a : Int32 × Mu} {f : Nat → Int32 × Mu} (ha : RGA a.2) (hb : ∀ t, RGA (f t).2) : RGA (oc o a f).2 := by
  cases o with
  | none => exact ha
  | some t => exact hb t
theorem rga_ocM {o : Option Nat} {a : Mu} {f : Nat → Mu} (ha : RGA a) (hb : ∀ t, RGA (f t)) : RGA (oc o a f) := by
  cases o with
  | none => exact ha
  | some t => exact hb t
theorem rga_X8_alarms  (μ : Mu)  (n : Nat) (w : Int32)  (hh : RGA μ) : RGA ((sp_X8_alarms μ n w)) := by
  unfold sp_X8_alarms
  exact (rga_iteM (rga_iteM (rga_w (by decide) (by decide) hh) (rga_iteM (rga_w (by decide) (by decide) hh) (rga_w (by decide) (by decide) hh))) (rga_iteM (rga_w (by decide) (by decide) hh) (rga_iteM (rga_w (by decide) (by decide) hh) (rga_w (by decide) (by decide) hh))))
theorem rga_X8_cuts  (μ : Mu)  (a : Int32) (b : Int32) (w : Int32)  (hh : RGA μ) : RGA ((sp_X8_cuts μ a b w).2) := by
  unfold sp_X8_cuts
  exact (rga_ite (rga_ite (rga_ite (rga_lf hh) (rga_lf (rga_w (by decide) (by decide) hh))) (rga_lf hh)) (rga_lf hh))
theorem rga_X8_reads (μ : Mu) (a : Int32) (h : RGA μ) : RGA (sp_X8_reads μ a).2 := by
  unfold sp_X8_reads
  split
  · next c1 =>
    have ha := ni_of h.1.1.2.1 (by decide) c1
    have h6 := h.1.1.2.1.2
    have hk := ((h.1.1.2.2.2 a.toNatClampNeg (by omega)).2.1).2
    split
    · split
      · exact rga_X8_alarms _ _ _ (rga_w (by decide) (by decide) (rga_19 (ni_nI (k := 9) (by decide) (by decide)) (rga_w (by decide) (by decide) (rga_19 (ni_nI (k := 8) (by decide) (by decide)) (rga_w (by decide) (by decide) (rga_w (by decide) (by decide) (rga_w (by decide) (by decide) (rga_w (by decide) (by decide) (rga_w (by decide) (by decide) (rga_w (by decide) (by decide) (rga_w (by decide) (by decide) (rga_w (by decide) (by decide) h))))))))))))
      · next c3 =>
        have q : (μ.1 8 (85 + 29 * a.toNatClampNeg + 19)).toNatClampNeg ≠ 9 := fun z => c3 (by rw [z]; rfl)
        exact rga_X8_alarms _ _ _ (rga_w (by decide) (by decide) (rga_19 (ni_nI (by omega) (by decide)) (rga_w (by omega) (by omega) h)))
    · exact h
  · exact h
theorem rga_X8_baths (μ : Mu) (a b : Int32) (h : RGA μ) : RGA (sp_X8_baths μ a b).2 := by
  unfold sp_X8_baths
  split
  · split
    · split
      · next c3 => exact rga_4 c3.2.1 c3.2.2 h
      · exact h
    · exact h
  · exact h
theorem rga_lp_X8_scans_42  (μ : Mu)   (hh : RGA μ) (f : Nat) : ∀ (v0 : Int32) (k : Nat), RGA ((lp_X8_scans_42 μ  f v0 k).2) := by
  induction f with
  | zero => intro v0 k; exact hh
  | succ f ih =>
    intro v0 k
    unfold lp_X8_scans_42
    exact (rga_ite (rga_lf hh) (rga_ite (ih _ _) (rga_ite (rga_lf (rga_X8_reads (pM μ 8 9 ((10 * (((v0 + (nI k)) - (v0 + (nI k)) / 12 * 12) / 3)) + (((v0 + (nI k)) - (v0 + (nI k)) / 12 * 12) - ((v0 + (nI k)) - (v0 + (nI k)) / 12 * 12) / 3 * 3))) (sp_X8_inside (μ.1 8)  ((10 * (((v0 + (nI k)) - (v0 + (nI k)) / 12 * 12) / 3)) + (((v0 + (nI k)) - (v0 + (nI k)) / 12 * 12) - ((v0 + (nI k)) - (v0 + (nI k)) / 12 * 12) / 3 * 3)))  (rga_9 hh))) (rga_lf (rga_X8_reads (pM μ 8 9 ((10 * (((v0 + (nI k)) - (v0 + (nI k)) / 12 * 12) / 3)) + (((v0 + (nI k)) - (v0 + (nI k)) / 12 * 12) - ((v0 + (nI k)) - (v0 + (nI k)) / 12 * 12) / 3 * 3))) (sp_X8_inside (μ.1 8)  ((10 * (((v0 + (nI k)) - (v0 + (nI k)) / 12 * 12) / 3)) + (((v0 + (nI k)) - (v0 + (nI k)) / 12 * 12) - ((v0 + (nI k)) - (v0 + (nI k)) / 12 * 12) / 3 * 3)))  (rga_9 hh))))))
theorem rga_X8_scans  (μ : Mu)    (hh : RGA μ) : RGA ((sp_X8_scans μ ).2) := by
  unfold sp_X8_scans
  exact (rga_ite (rga_lp_X8_scans_42 _ hh 13 (11 : Int32) 1) (rga_lp_X8_scans_42 _ hh 13 ((3 * ((μ.1 8 9) / 10)) + ((μ.1 8 9) - (μ.1 8 9) / 10 * 10)) 1))
theorem atp_lf {v : Int32} {m : Mu} (h : AT m) : AT ((v, m).2) := h
theorem atp_ite {P : Prop} [Decidable P] {a b : Int32 × Mu} (ha : AT a.2) (hb : AT b.2) : AT (if P then a else b).2 := by
  split
  · exact ha
  · exact hb
theorem atp_iteM {P : Prop} [Decidable P] {a b : Mu} (ha : AT a) (hb : AT b) : AT (if P then a else b) := by
  split
  · exact ha
  · exact hb
theorem atp_oc {o : Option Nat} {a : Int32 × Mu} {f : Nat → Int32 × Mu} (ha : AT a.2) (hb : ∀ t, AT (f t).2) : AT (oc o a f).2 := by
  cases o with
  | none => exact ha
  | some t => exact hb t
theorem atp_ocM {o : Option Nat} {a : Mu} {f : Nat → Mu} (ha : AT a) (hb : ∀ t, AT (f t)) : AT (oc o a f) := by
  cases o with
  | none => exact ha
  | some t => exact hb t
theorem atp_X8_alarms  (μ : Mu)  (n : Nat) (w : Int32)  (hh : AT μ) : AT ((sp_X8_alarms μ n w)) := by
  unfold sp_X8_alarms
  exact (atp_iteM (atp_iteM (at_pM (by decide) hh) (atp_iteM (at_pM (by decide) hh) (at_pM (by decide) hh))) (atp_iteM (at_pM (by decide) hh) (atp_iteM (at_pM (by decide) hh) (at_pM (by decide) hh))))
theorem atp_X8_baths  (μ : Mu)  (a : Int32) (b : Int32)  (hh : AT μ) : AT ((sp_X8_baths μ a b).2) := by
  unfold sp_X8_baths
  exact (atp_ite (atp_ite (atp_ite (atp_lf (at_pM (by decide) hh)) (atp_lf hh)) (atp_lf hh)) (atp_lf hh))
theorem atp_X8_cuts  (μ : Mu)  (a : Int32) (b : Int32) (w : Int32)  (hh : AT μ) : AT ((sp_X8_cuts μ a b w).2) := by
  unfold sp_X8_cuts
  exact (atp_ite (atp_ite (atp_ite (atp_lf hh) (atp_lf (at_pM (by decide) hh))) (atp_lf hh)) (atp_lf hh))
theorem atp_X8_reads  (μ : Mu)  (a : Int32)  (hh : AT μ) : AT ((sp_X8_reads μ a).2) := by
  unfold sp_X8_reads
  exact (atp_ite (atp_ite (atp_ite (atp_lf (atp_X8_alarms (pM (pM (pM (pM (pM (pM (pM (pM (pM (pM (pM (pM μ 8 (85 + 29 * a.toNatClampNeg + 20) (μ.1 8 (85 + 29 * a.toNatClampNeg + 21))) 8 (85 + 29 * a.toNatClampNeg + 21) (μ.1 8 (85 + 29 * a.toNatClampNeg + 22))) 8 (85 + 29 * a.toNatClampNeg + 22) (μ.1 8 (85 + 29 * a.toNatClampNeg + 23))) 8 (85 + 29 * a.toNatClampNeg + 23) (μ.1 8 (85 + 29 * a.toNatClampNeg + 24))) 8 (85 + 29 * a.toNatClampNeg + 24) (μ.1 8 (85 + 29 * a.toNatClampNeg + 25))) 8 (85 + 29 * a.toNatClampNeg + 25) (μ.1 8 (85 + 29 * a.toNatClampNeg + 26))) 8 (85 + 29 * a.toNatClampNeg + 26) (μ.1 8 (85 + 29 * a.toNatClampNeg + 27))) 8 (85 + 29 * a.toNatClampNeg + 27) (μ.1 8 (85 + 29 * a.toNatClampNeg + 28))) 8 (85 + 29 * a.toNatClampNeg + 19) (8 : Int32)) 8 (85 + 29 * a.toNatClampNeg + 28) (sp_X8_degrees (μ.1 8)  a.toNatClampNeg)) 8 (85 + 29 * a.toNatClampNeg + 19) (9 : Int32)) 8 (85 + 29 * a.toNatClampNeg + 18) ((μ.1 8 (85 + 29 * a.toNatClampNeg + 18)) + 1)) a.toNatClampNeg (sp_X8_degrees (μ.1 8)  a.toNatClampNeg)  (at_pM (by decide) (at_pM (by decide) (at_pM (by decide) (at_pM (by decide) (at_pM (by decide) (at_pM (by decide) (at_pM (by decide) (at_pM (by decide) (at_pM (by decide) (at_pM (by decide) (at_pM (by decide) (at_pM (by decide) hh)))))))))))))) (atp_lf (atp_X8_alarms (pM (pM (pM μ 8 (85 + 29 * a.toNatClampNeg + (20 + ((μ.1 8 (85 + 29 * a.toNatClampNeg + 19)).toNatClampNeg))) (sp_X8_degrees (μ.1 8)  a.toNatClampNeg)) 8 (85 + 29 * a.toNatClampNeg + 19) (nI ((μ.1 8 (85 + 29 * a.toNatClampNeg + 19)).toNatClampNeg + 1))) 8 (85 + 29 * a.toNatClampNeg + 18) ((μ.1 8 (85 + 29 * a.toNatClampNeg + 18)) + 1)) a.toNatClampNeg (sp_X8_degrees (μ.1 8)  a.toNatClampNeg)  (at_pM (by decide) (at_pM (by decide) (at_pM (by decide) hh)))))) (atp_lf hh)) (atp_lf hh))
theorem atp_lp_X8_scans_42  (μ : Mu)   (hh : AT μ) (f : Nat) : ∀ (v0 : Int32) (k : Nat), AT ((lp_X8_scans_42 μ  f v0 k).2) := by
  induction f with
  | zero => intro v0 k; exact hh
  | succ f ih =>
    intro v0 k
    unfold lp_X8_scans_42
    exact (atp_ite (atp_lf hh) (atp_ite (ih _ _) (atp_ite (atp_lf (atp_X8_reads (pM μ 8 9 ((10 * (((v0 + (nI k)) - (v0 + (nI k)) / 12 * 12) / 3)) + (((v0 + (nI k)) - (v0 + (nI k)) / 12 * 12) - ((v0 + (nI k)) - (v0 + (nI k)) / 12 * 12) / 3 * 3))) (sp_X8_inside (μ.1 8)  ((10 * (((v0 + (nI k)) - (v0 + (nI k)) / 12 * 12) / 3)) + (((v0 + (nI k)) - (v0 + (nI k)) / 12 * 12) - ((v0 + (nI k)) - (v0 + (nI k)) / 12 * 12) / 3 * 3)))  (at_pM (by decide) hh))) (atp_lf (atp_X8_reads (pM μ 8 9 ((10 * (((v0 + (nI k)) - (v0 + (nI k)) / 12 * 12) / 3)) + (((v0 + (nI k)) - (v0 + (nI k)) / 12 * 12) - ((v0 + (nI k)) - (v0 + (nI k)) / 12 * 12) / 3 * 3))) (sp_X8_inside (μ.1 8)  ((10 * (((v0 + (nI k)) - (v0 + (nI k)) / 12 * 12) / 3)) + (((v0 + (nI k)) - (v0 + (nI k)) / 12 * 12) - ((v0 + (nI k)) - (v0 + (nI k)) / 12 * 12) / 3 * 3)))  (at_pM (by decide) hh))))))
theorem atp_X8_scans  (μ : Mu)    (hh : AT μ) : AT ((sp_X8_scans μ ).2) := by
  unfold sp_X8_scans
  exact (atp_ite (atp_lp_X8_scans_42 _ hh 13 (11 : Int32) 1) (atp_lp_X8_scans_42 _ hh 13 ((3 * ((μ.1 8 9) / 10)) + ((μ.1 8 9) - (μ.1 8 9) / 10 * 10)) 1))
