/-! ===== plug, sensor ===== -/
theorem in_no {s : Nat → Int32} {v : Int32} {cnt : Nat} (h1 : s 1 = nI cnt) (hc : cnt < 7) : ∀ f k, k + f = 7 → lp_X8_inside_2 s v f k = -1 → ∀ n, k ≤ n → n < cnt → s (85 + 29 * n + 13) ≠ v := by
  intro f
  induction f with
  | zero => intro k hk _ n h2 h3; omega
  | succ f ih =>
    intro k hk h n h2 h3 e
    unfold lp_X8_inside_2 at h
    rw [h1, nI_clamp (by omega), if_neg (by rw [nI_leI (by omega) (by omega)]; omega)] at h
    by_cases y : s (85 + 29 * k + 13) = v
    · rw [if_pos y] at h
      have := congrArg Int32.toInt h
      rw [nI_toInt (by omega), show (-1 : Int32).toInt = -1 by decide] at this
      omega
    · rw [if_neg y] at h
      by_cases d : n = k
      · subst d; exact y e
      · exact ih (k + 1) (by omega) h n (by omega) h3 e
theorem in_eq {B : Nat} {g s : Nat → Int32} (h : SimS B g s) {j i : Nat} (hj : j < 4) (hi : i < 3) : sp_X4_sensorIn g (nI (j * 3 + i)) = sp_X8_inside s (nI (10 * j + i)) := by
  have e2 : 10 * ((j * 3 + i) / 3) + (j * 3 + i) % 3 = 10 * j + i := by omega
  rw [← e2]
  exact in_lp h.1.2.1 (simS_RI h).2.1 h.2.2.2.1 (by omega) 7 0 (by omega)
def tkS (s : Nat → Int32) (j : Nat) : Int32 :=
  if sp_X8_inside s (nI (10 * j + 0)) = -1 then (if sp_X8_inside s (nI (10 * j + 1)) = -1 then (if sp_X8_inside s (nI (10 * j + 2)) = -1 then 0 else 1) else (if sp_X8_inside s (nI (10 * j + 2)) = -1 then 1 else 2))
  else (if sp_X8_inside s (nI (10 * j + 1)) = -1 then (if sp_X8_inside s (nI (10 * j + 2)) = -1 then 1 else 2) else (if sp_X8_inside s (nI (10 * j + 2)) = -1 then 2 else 3))
theorem tk_ok (s : Nat → Int32) (j : Nat) : ¬ tkS s j ≤ -2000000001 := by
  unfold tkS
  split <;> split <;> split <;> decide
theorem tk_eq {B : Nat} {g s : Nat → Int32} (h : SimS B g s) {j : Nat} (hj : j < 4) : sp_X4_takenSlots g (nI j) = tkS s j := by
  have e : ∀ i, i < 3 → sp_X4_sensorIn g (nI j * 3 + nI i) = sp_X8_inside s (nI (10 * j + i)) := by
    intro i hi
    rw [← in_eq h hj hi, show (3 : Int32) = nI 3 from rfl, pk_mul, nI_add]
  unfold sp_X4_takenSlots tkS
  rw [show (0 : Int32) = nI 0 from rfl, show (1 : Int32) = nI 1 from rfl, show (2 : Int32) = nI 2 from rfl, e 0 (by omega), e 1 (by omega), e 2 (by omega)]
theorem plug_r {x : Mu} {a : Int32} {n j i k : Nat} (hna : a.toNatClampNeg = n) (hj : j < 4) (hi : i < 3) (c : 0 ≤ a ∧ a ≤ (x.1 8 1) - 1) (hp : x.1 8 (85 + 29 * n + 13) = -1) (hin : sp_X8_inside (x.1 8) (nI (10 * j + i)) = -1) (hk : x.1 8 (85 + 29 * n + 1) = nI k) (hk5 : k < 5) : sp_X8_plug x a (nI j) (nI i) = if 3 ≤ j ∨ k = j + 2 then ((sp_X8_acted (pM (pC x 11 0 8 0 259) 8 (85 + 29 * n + 13) (nI (10 * j + i))) (tkS (ur (x.1 8) (85 + 29 * n + 13) (nI (10 * j + i))) j)).1, (sp_X8_acted (pM (pC x 11 0 8 0 259) 8 (85 + 29 * n + 13) (nI (10 * j + i))) (tkS (ur (x.1 8) (85 + 29 * n + 13) (nI (10 * j + i))) j)).2) else (-2000000002, x) := by
  have cj : (0 : Int32) ≤ nI j ∧ nI j ≤ 3 := ⟨nI_pos' (by omega), by rw [show (3 : Int32) = nI 3 from rfl, nI_leI (by omega) (by omega)]; omega⟩
  have ci : (0 : Int32) ≤ nI i ∧ nI i ≤ 2 := ⟨nI_pos' (by omega), by rw [show (2 : Int32) = nI 2 from rfl, nI_leI (by omega) (by omega)]; omega⟩
  unfold sp_X8_plug tkS
  rw [if_pos c, if_pos cj, if_pos ci, hna, nI_clamp (show j < 2 ^ 31 by omega), nI_clamp (show i < 2 ^ 31 by omega), hp, if_pos rfl, hin, if_pos rfl, hk, nI_clamp (show k < 2 ^ 31 by omega), row_s]
  generalize sp_X8_inside (ur (x.1 8) (85 + 29 * n + 13) (nI (10 * j + i))) (nI (10 * j + 0)) = A
  generalize sp_X8_inside (ur (x.1 8) (85 + 29 * n + 13) (nI (10 * j + i))) (nI (10 * j + 1)) = B
  generalize sp_X8_inside (ur (x.1 8) (85 + 29 * n + 13) (nI (10 * j + i))) (nI (10 * j + 2)) = C
  by_cases d : 3 ≤ j
  · rw [if_pos (by rw [show (3 : Int32) = nI 3 from rfl, nI_leI (by omega) (by omega)]; exact d), if_pos (Or.inl d)]
    by_cases q1 : A = -1 <;> by_cases q2 : B = -1 <;> by_cases q3 : C = -1 <;> simp only [q1, q2, q3, if_true, if_false]
  · rw [if_neg (by rw [show (3 : Int32) = nI 3 from rfl, nI_leI (by omega) (by omega)]; exact d)]
    by_cases d2 : k = j + 2
    · rw [if_pos (by rw [d2]), if_pos (Or.inr d2)]
      by_cases q1 : A = -1 <;> by_cases q2 : B = -1 <;> by_cases q3 : C = -1 <;> simp only [q1, q2, q3, if_true, if_false]
    · rw [if_neg (fun q => d2 (nI_ij (by omega) (by omega) q)), if_neg (fun q => q.elim d d2)]
theorem st_plug {B : Nat} {μ : Mu} (h : Inv B μ) (a b w : Int32) : Stq B (sp_X7_plug μ a b w) (fun m => sp_X8_plug m a b w) := by
  have hS := h.1
  unfold sp_X7_plug
  rw [senI hS]
  by_cases c : 0 ≤ a ∧ a ≤ μ.1 8 1 - 1
  · rw [if_pos c]
    obtain ⟨-, hn⟩ := sen_lt hS c
    have hc := simS_c hS
    generalize hna : a.toNatClampNeg = n at *
    show Stq B (if ((0 : Int64) ≤ b.toInt64 ∧ b.toInt64 ≤ 3) ∧ (0 : Int64) ≤ w.toInt64 ∧ w.toInt64 ≤ 2 then _ else _) _
    have i3 : (0 : Int64) ≤ b.toInt64 ∧ b.toInt64 ≤ 3 ↔ (0 : Int32) ≤ b ∧ b ≤ 3 := i2g (by decide) (by decide)
    have i2 : (0 : Int64) ≤ w.toInt64 ∧ w.toInt64 ≤ 2 ↔ (0 : Int32) ≤ w ∧ w ≤ 2 := i2g (by decide) (by decide)
    by_cases c1 : (0 : Int32) ≤ b ∧ b ≤ 3
    · by_cases c2 : (0 : Int32) ≤ w ∧ w ≤ 2
      · rw [if_pos ⟨i3.mpr c1, i2.mpr c2⟩]
        have hp : PlO (μ.1 0 (sF n 6)) (μ.1 8 (85 + 29 * n + 13)) := hS.2.2.2.1 n hn
        have hW := ((simS_RI hS).2.2.2 n (by omega)).2.2
        obtain ⟨k, hk, ek⟩ : ∃ k, k < 5 ∧ μ.1 8 (85 + 29 * n + 1) = nI k := ⟨_, hW.2, hW.1⟩
        obtain ⟨j, hj, rfl⟩ := b_in 3 rfl (by omega) c1
        obtain ⟨i, hi, rfl⟩ := b_in 2 rfl (by omega) c2
        have e3 : nI j * 3 + nI i = nI (j * 3 + i) := by rw [show (3 : Int32) = nI 3 from rfl, pk_mul, nI_add]
        rw [e3, in_eq hS hj hi, show μ.1 0 (sF n 1) = μ.1 8 (85 + 29 * n + 1) from (simS_N hS hn).1 1 (by omega), ek]
        by_cases c3 : μ.1 0 (sF n 6) = -1
        · rw [if_neg (fun q => q c3)]
          have c3' := (pl_no hp).mp c3
          by_cases c4 : sp_X8_inside (μ.1 8) (nI (10 * j + i)) = -1
          · rw [if_pos c4]
            have ec : (nI j = 3 ∨ nI k = 2 + nI j) ↔ (3 ≤ j ∨ k = j + 2) := by
              rw [show (3 : Int32) = nI 3 from rfl, show (2 : Int32) = nI 2 from rfl, nI_add, nI_eq (by omega) (by omega), nI_eq (by omega) (by omega)]
              omega
            by_cases c5 : 3 ≤ j ∨ k = j + 2
            · rw [if_pos (ec.mpr c5)]
              have hnew : SimS B (ur (μ.1 0) (sF n 6) (nI (j * 3 + i))) (ur (μ.1 8) (85 + 29 * n + 13) (nI (10 * j + i))) := by
                refine simS_p hS hn (Or.inr ⟨j * 3 + i, by omega, rfl, by congr 1; omega⟩) (nle_bd (by rw [nI_toInt (by omega)]; omega)) (fun n' hn' _ e => ?_)
                exact (in_no (simS_RI hS).2.1.1 hc 7 0 rfl c4 n' (Nat.zero_le _) hn' e.symm).elim
              rw [row_s, rec_0 h, tk_eq hnew hj]
              refine stp_w (k' := 85 + 29 * n + 13) (v' := nI (10 * j + i)) (w := tkS (ur (μ.1 8) (85 + 29 * n + 13) (nI (10 * j + i))) j) h (Nat.le_refl _) ?_ rfl (tk_ok _ _) hnew
              have e8 : (pM (sp_X0_record μ) 0 (sF n 6) (nI (j * 3 + i))).1 8 = μ.1 8 := by rw [row_n _ (by omega), rec_7 h (by omega)]
              show sp_X8_plug _ a (nI j) (nI i) = _
              rw [plug_r (k := k) hna hj hi (by rw [e8]; exact c) (by rw [e8]; exact c3') (by rw [e8]; exact c4) (by rw [e8]; exact ek) hk, if_pos c5, e8]
            · rw [if_neg (fun q => c5 (ec.mp q))]
              refine stp_no h (Nat.le_refl _) ?_
              show sp_X8_plug _ a (nI j) (nI i) = _
              rw [plug_r (k := k) hna hj hi c c3' c4 ek hk, if_neg c5]
          · rw [if_neg c4]
            refine stp_no h (Nat.le_refl _) ?_
            show sp_X8_plug _ a (nI j) (nI i) = _
            unfold sp_X8_plug
            rw [if_pos c, if_pos c1, if_pos c2, hna, nI_clamp (show j < 2 ^ 31 by omega), nI_clamp (show i < 2 ^ 31 by omega), c3', if_pos rfl, if_neg c4]
        · rw [if_pos c3]
          refine stp_no h (Nat.le_refl _) ?_
          show sp_X8_plug _ a (nI j) (nI i) = _
          unfold sp_X8_plug
          rw [if_pos c, if_pos c1, if_pos c2, hna, if_neg (fun q => c3 ((pl_no hp).mpr q))]
      · rw [if_neg (fun q => c2 (i2.mp q.2))]
        refine stp_no h (Nat.le_refl _) ?_
        show sp_X8_plug _ a b w = _
        unfold sp_X8_plug
        rw [if_pos c, if_pos c1, if_neg c2]
    · rw [if_neg (fun q => c1 (i3.mp q.1))]
      refine stp_no h (Nat.le_refl _) ?_
      show sp_X8_plug _ a b w = _
      unfold sp_X8_plug
      rw [if_pos c, if_neg c1]
  · rw [if_neg c]
    refine stp_no h (Nat.le_refl _) ?_
    show sp_X8_plug _ a b w = _
    unfold sp_X8_plug
    rw [if_neg c]
/-- the zeros of a new sensor -/
theorem sn_lp {x : Mu} {a b d : Int32} {c : Nat} (hx : (x.1 8 1).toNatClampNeg = c) : ∀ f k (m : Mu), k + f = 30 → k ≤ 29 → ∃ m2, lp_X8_sensor_83 x a b d f k m = lp_X8_sensor_83 x a b d 1 29 m2 ∧ m2.2 = m.2 ∧ (∀ c, c ≠ 8 → m2.1 c = m.1 c) ∧ ∀ y, m2.1 8 y = if 85 + 29 * c + k ≤ y ∧ y < 85 + 29 * c + 29 then 0 else m.1 8 y := by
  intro f
  induction f with
  | zero => intro k m h1 h2; omega
  | succ f ih =>
    intro k m h1 h2
    by_cases e : 29 ≤ k
    · have : k = 29 := by omega
      subst this
      have : f = 0 := by omega
      subst this
      exact ⟨m, rfl, rfl, fun _ _ => rfl, fun y => by rw [if_neg (by omega)]⟩
    · obtain ⟨m2, q1, q2, q3, q4⟩ := ih (k + 1) (pM m 8 (85 + 29 * c + k) 0) (by omega) (by omega)
      refine ⟨m2, ?_, q2, fun c hc => (q3 c hc).trans (row_n _ hc), fun y => ?_⟩
      · rw [← q1]
        conv => lhs; unfold lp_X8_sensor_83
        rw [if_neg (by rw [show (29 : Int32) = nI 29 from rfl, nI_leI (by omega) (by omega)]; exact e), hx]
      · rw [q4]
        by_cases z : y = 85 + 29 * c + k
        · subst z
          rw [if_neg (by omega), row_at, if_pos (by omega)]
        · rw [row_k _ z]
          by_cases z2 : 85 + 29 * c + (k + 1) ≤ y ∧ y < 85 + 29 * c + 29
          · rw [if_pos z2, if_pos (by omega)]
          · rw [if_neg z2, if_neg (by omega)]
theorem simS_new {B c t : Nat} {g s g' s' : Nat → Int32} {b d T : Int32} (h : SimS B g s) (hc : c < 6) (h1 : s 1 = nI c) (ht : t < 3) (hb : (2 : Int32) ≤ b ∧ b ≤ 4) (hd : (1000 : Int32) ≤ d ∧ d ≤ 2000000) (hn2 : 2 ≤ rN s t) (hT1 : (s (11 + 25 * t + 0)).toInt ≤ T.toInt) (hT2 : T.toInt ≤ (rL s t).toInt)
    (g1 : g' 1 = nI (c + 1)) (s1 : s' 1 = nI (c + 1)) (go : ∀ y, y ≠ 1 → (y < 85 + 28 * c ∨ 85 + 28 * c + 28 ≤ y) → g' y = g y) (so : ∀ y, y ≠ 1 → (y < 85 + 29 * c ∨ 85 + 29 * c + 29 ≤ y) → s' y = s y)
    (gf : g' (85 + 28 * c + 0) = nI t ∧ g' (85 + 28 * c + 1) = b ∧ g' (85 + 28 * c + 2) = d ∧ g' (85 + 28 * c + 3) = d ∧ g' (85 + 28 * c + 4) = T ∧ g' (85 + 28 * c + 7) = -200000 ∧ g' (85 + 28 * c + 8) = 850000) (gz : ∀ f, f < 19 → f ≠ 0 → f ≠ 1 → f ≠ 2 → f ≠ 3 → f ≠ 4 → f ≠ 6 → f ≠ 7 → f ≠ 8 → g' (85 + 28 * c + f) = 0) (g6 : g' (85 + 28 * c + 6) = -1)
    (sf : s' (85 + 29 * c + 0) = nI t ∧ s' (85 + 29 * c + 1) = b ∧ s' (85 + 29 * c + 2) = d ∧ s' (85 + 29 * c + 3) = d ∧ s' (85 + 29 * c + 4) = T ∧ s' (85 + 29 * c + 14) = -200000 ∧ s' (85 + 29 * c + 15) = 850000) (sz : ∀ f, f < 29 → f ≠ 0 → f ≠ 1 → f ≠ 2 → f ≠ 3 → f ≠ 4 → f ≠ 13 → f ≠ 14 → f ≠ 15 → s' (85 + 29 * c + f) = 0) (s13 : s' (85 + 29 * c + 13) = -1) : SimS B g' s' := by
  have c7 := simS_c h
  have cc0 : cS s = c := by show (s 1).toNatClampNeg = c; rw [h1, nI_clamp (by omega)]
  have cc : cS s' = c + 1 := by show (s' 1).toNatClampNeg = c + 1; rw [s1, nI_clamp (by omega)]
  obtain ⟨hT, hP, hN, hpl, hno, hnt, hR, hm, hds, hbs⟩ := h
  have dI := rg_int hd
  have bI := rg_int hb
  rw [show (1000 : Int32).toInt = 1000 by decide, show (2000000 : Int32).toInt = 2000000 by decide] at dI
  rw [show (2 : Int32).toInt = 2 by decide, show (4 : Int32).toInt = 4 by decide] at bI
  have rt := (hR.1.2.1 t ht).1
  have r13 := (hR.1.1.2.2.1 t ht).2
  have r13' : rN s t < 13 := r13
  have tlo := (rt.2 0 (by omega)).1
  have thi := (rt.2 (rN s t - 1) (by omega)).2
  have thi' : (rL s t).toInt ≤ 850000 := thi
  obtain ⟨f0, f1, f2, f3, f4, f7, f8⟩ := gf
  obtain ⟨e0, e1, e2, e3, e4, e14, e15⟩ := sf
  have ne : ∀ {x : Int32}, -2000000000 ≤ x.toInt → ¬ x ≤ -2000000001 := fun q => nle_bd q
  refine ⟨⟨?_, ?_, fun k hk => ?_, fun k hk => ?_⟩, ?_, fun n hn => ?_, fun n hn => ?_, fun n hn hcn => ⟨fun f hf h6 => ?_, ?_⟩, fun t' ht' htc => ?_, ⟨⟨⟨?_, ?_, fun t' ht' => ?_, fun n hn => ?_⟩, fun t' ht' => ?_, ?_, ?_, ?_, ?_⟩, fun n hn => ?_⟩, ?_, fun n n' hn hn' e => ?_, fun k hk => ?_, fun n hn => ?_⟩
  · rw [go _ (by omega) (by omega), so _ (by omega) (by omega)]; exact hT.1
  · rw [g1, s1]
  · rw [go _ (by omega) (by omega), so _ (by omega) (by omega)]; exact hT.2.2.1 k hk
  · rw [go _ (by omega) (by omega), so _ (by omega) (by omega)]; exact hT.2.2.2 k hk
  · rw [go _ (by omega) (by omega), so _ (by omega) (by omega)]; exact hP
  · by_cases e : n = c
    · subst e
      refine ⟨fun f hf h6 => ?_, 0, Nat.zero_le _, ?_, ?_, fun i hi => by omega⟩
      · rcases (show f = 0 ∨ f = 1 ∨ f = 2 ∨ f = 3 ∨ f = 4 ∨ f = 7 ∨ f = 8 ∨ (f ≠ 0 ∧ f ≠ 1 ∧ f ≠ 2 ∧ f ≠ 3 ∧ f ≠ 4 ∧ f ≠ 7 ∧ f ≠ 8) by omega) with rfl | rfl | rfl | rfl | rfl | rfl | rfl | q
        · rw [f0]; exact e0.symm
        · rw [f1]; exact e1.symm
        · rw [f2]; exact e2.symm
        · rw [f3]; exact e3.symm
        · rw [f4]; exact e4.symm
        · rw [f7]; exact e14.symm
        · rw [f8]; exact e15.symm
        · have := ph_lt hf
          have nn : ∀ f', f' < 19 → f ≠ f' → ph f ≠ ph f' := fun f' hf' q e => q (ph_ij hf hf' e)
          rw [gz f hf q.1 q.2.1 q.2.2.1 q.2.2.2.1 q.2.2.2.2.1 h6 q.2.2.2.2.2.1 q.2.2.2.2.2.2, sz _ (by omega) (nn 0 (by omega) (by omega)) (nn 1 (by omega) (by omega)) (nn 2 (by omega) (by omega)) (nn 3 (by omega) (by omega)) (nn 4 (by omega) (by omega)) (nn 6 (by omega) (by omega)) (nn 7 (by omega) (by omega)) (nn 8 (by omega) (by omega))]
      · rw [gz 11 (by omega) (by omega) (by omega) (by omega) (by omega) (by omega) (by omega) (by omega) (by omega)]; rfl
      · rw [sz 19 (by omega) (by omega) (by omega) (by omega) (by omega) (by omega) (by omega) (by omega) (by omega)]; rfl
    · refine ⟨fun f hf h6 => ?_, ?_⟩
      · have := ph_lt hf
        rw [go _ (by omega) (by omega), so _ (by omega) (by omega)]; exact (hN n hn).1 f hf h6
      · obtain ⟨r, a1, a2, a3, a4⟩ := (hN n hn).2
        refine ⟨r, a1, ?_, ?_, fun i hi => ?_⟩
        · rw [go _ (by omega) (by omega)]; exact a2
        · rw [so _ (by omega) (by omega)]; exact a3
        · rw [go _ (by omega) (by omega), so _ (by omega) (by omega)]; exact a4 i hi
  · by_cases e : n = c
    · subst e; rw [g6, s13]; exact Or.inl ⟨rfl, rfl⟩
    · rw [go _ (by omega) (by omega), so _ (by omega) (by omega)]; exact hpl n (by omega)
  · rw [go _ (by omega) (by omega)]; exact (hno n hn (by omega)).1 f hf h6
  · rw [go _ (by omega) (by omega)]; exact (hno n hn (by omega)).2
  · rw [so _ (by omega) (by omega)] at htc
    rw [so _ (by omega) (by omega)]; exact hnt t' ht' htc
  · rw [so _ (by omega) (by omega)]; exact hR.1.1.1
  · rw [s1]; exact ni_nI (by omega) (by omega)
  · rw [so _ (by omega) (by omega)]; exact hR.1.1.2.2.1 t' ht'
  · by_cases e : n = c
    · subst e
      rw [e0, e1, sz 19 (by omega) (by omega) (by omega) (by omega) (by omega) (by omega) (by omega) (by omega) (by omega)]
      exact ⟨ni_nI ht (by omega), ni_z (by omega), ni_24 hb⟩
    · rw [so _ (by omega) (by omega), so _ (by omega) (by omega), so _ (by omega) (by omega)]; exact hR.1.1.2.2.2 n hn
  · exact rt_ag (fun y h1 h2 => so y (by omega) (by omega)) (hR.1.1.2.2.1 t' ht').2 (hR.1.2.1 t' ht')
  · rw [so _ (by omega) (by omega)]; exact hR.1.2.2.1
  · rw [so _ (by omega) (by omega)]; exact hR.1.2.2.2.1
  · rw [so _ (by omega) (by omega)]; exact hR.1.2.2.2.2.1
  · rw [so _ (by omega) (by omega)]; exact hR.1.2.2.2.2.2
  · by_cases e : n = c
    · subst e
      have eo : oN s' n = t := by unfold oN; rw [e0, nI_clamp (by omega)]
      have eN : rN s' t = rN s t := by unfold rN; rw [so _ (by omega) (by omega)]
      have eL : rL s' t = rL s t := by unfold rL; rw [eN, so _ (by omega) (by omega)]
      unfold RS
      rw [eo, eN, eL, so (11 + 25 * t + 0) (by omega) (by omega), e4, e2, e3, sz 9 (by omega) (by omega) (by omega) (by omega) (by omega) (by omega) (by omega) (by omega) (by omega)]
      exact ⟨by omega, hn2, ⟨hT1, hT2⟩, dI, dI, by decide, by decide⟩
    · have o3 : oN s n < 3 := (hR.1.1.2.2.2 n (by omega)).1.2
      exact rs_ag (so _ (by omega) (by omega)) (fun y h1 h2 => so y (by omega) (by omega)) (hR.1.1.2.2.1 _ o3).2 (fun k hk => so _ (by omega) (by omega)) (hR.2 n (by omega))
  · rw [so _ (by omega) (by omega)]; exact hm
  · by_cases e' : n = c
    · subst e'; exact s13
    · rw [so _ (by omega) (by omega), so _ (by omega) (by omega)] at e
      rw [so _ (by omega) (by omega)]; exact hds n n' (by omega) hn' e
  · rw [so _ (by omega) (by omega)]; exact hbs.1 k hk
  · by_cases e : n = c
    · subst e
      refine ⟨fun f hf => ?_, ?_⟩
      · rcases (show f = 0 ∨ f = 1 ∨ f = 2 ∨ f = 3 ∨ f = 4 ∨ f = 13 ∨ f = 14 ∨ f = 15 ∨ (f ≠ 0 ∧ f ≠ 1 ∧ f ≠ 2 ∧ f ≠ 3 ∧ f ≠ 4 ∧ f ≠ 13 ∧ f ≠ 14 ∧ f ≠ 15) by omega) with rfl | rfl | rfl | rfl | rfl | rfl | rfl | rfl | q
        · rw [e0]; exact ne (by rw [nI_toInt (by omega)]; omega)
        · rw [e1]; exact ne (by omega)
        · rw [e2]; exact ne (by omega)
        · rw [e3]; exact ne (by omega)
        · rw [e4]; exact ne (by omega)
        · rw [s13]; decide
        · rw [e14]; decide
        · rw [e15]; decide
        · rw [sz f (by omega) q.1 q.2.1 q.2.2.1 q.2.2.2.1 q.2.2.2.2.1 q.2.2.2.2.2.1 q.2.2.2.2.2.2.1 q.2.2.2.2.2.2.2]; decide
      · refine ⟨?_, ?_⟩
        · rw [sz 12 (by omega) (by omega) (by omega) (by omega) (by omega) (by omega) (by omega) (by omega) (by omega)]; exact ni_z (by omega)
        · rw [sz 17 (by omega) (by omega) (by omega) (by omega) (by omega) (by omega) (by omega) (by omega) (by omega)]; exact ni_z (by omega)
    · refine ⟨fun f hf => ?_, ?_⟩
      · rw [so _ (by omega) (by omega)]; exact (hbs.2 n hn).1 f hf
      · exact brk_eq (hbs.2 n hn).2 (so _ (by omega) (by omega)) (so _ (by omega) (by omega))
