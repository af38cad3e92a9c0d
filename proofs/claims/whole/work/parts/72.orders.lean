/-! ===== all orders; fault, play ===== -/
def FrP (m m' : Mu) : Prop := m'.2.2 = m.2.2 ∧ (∀ c, c ≠ 1 → c ≠ 6 → m'.1 c = m.1 c) ∧ ∀ k, (k = 0 ∨ k = 3 ∨ (8 ≤ k ∧ k < 68)) → m'.1 6 k = m.1 6 k
theorem frP_r {m : Mu} : FrP m m := ⟨rfl, fun _ _ _ => rfl, fun _ _ => rfl⟩
theorem frP_t {a b c : Mu} (h1 : FrP a b) (h2 : FrP b c) : FrP a c := ⟨h2.1.trans h1.1, fun k x y => (h2.2.1 k x y).trans (h1.2.1 k x y), fun k x => (h2.2.2 k x).trans (h1.2.2 k x)⟩
theorem frP_O {a b : Mu} (h : FrO a b) : FrP a b := ⟨h.1, h.2.1, fun k hk => h.2.2 k (by omega)⟩
theorem frP_p {m : Mu} {k : Nat} {v : Int32} (hk : 68 ≤ k) : FrP m (pM m 6 k v) := ⟨rfl, fun _ _ h => row_n _ h, fun _ h => row_k _ (by omega)⟩
theorem frZ_r {m : Mu} : FrZ m m := ⟨rfl, fun _ _ _ _ => rfl, fun _ _ => rfl⟩
theorem frZ_t {a b c : Mu} (h1 : FrZ a b) (h2 : FrZ b c) : FrZ a c := ⟨h2.1.trans h1.1, fun k x y z => (h2.2.1 k x y z).trans (h1.2.1 k x y z), fun k x => (h2.2.2 k x).trans (h1.2.2 k x)⟩
/-- the relation at an order's start, by what counts of the memories -/
theorem or_eq {B L p : Nat} {m m' y y' : Mu} (h : ORd B L p m y) (e1 : ∀ z, z < 253 → m'.1 1 z = m.1 1 z) (e3 : m'.1 6 3 = m.1 6 3) (ec : ∀ i, i < 60 → m'.1 6 (8 + i) = m.1 6 (8 + i)) (e8 : ∀ z, z < 259 → y'.1 8 z = y.1 8 z) (f1 : y'.1 7 1 = y.1 7 1) (f12 : ∀ i, i < 60 → y'.1 12 i = y.1 12 i) (f2 : y'.1 7 2 = y.1 7 2) : ORd B L p m' y' := by
  obtain ⟨h1, h2, h3, h4, h5, h6, h7⟩ := h
  exact ⟨simS_eq h1 e1 e8, h2, e3.trans h3, f1.trans h4, fun i hi => by rw [ec i hi, f12 i hi]; exact h5 i hi, f2.trans h6, h7⟩
theorem l35_e {x y : Mu} {f p : Nat} (hp : p < 100) : lp_X8_faulty_35 x (f + 1) (nI p) y = lp_X8_faulty_83 x 260 (nI p) 0 y := by
  unfold lp_X8_faulty_35
  split
  · rfl
  · rw [if_neg (fun e => by
      have := congrArg Int32.toInt e
      rw [nI_toInt (by omega), show (-2000000004 : Int32).toInt = -2000000004 by decide] at this
      omega)]
theorem l35_s {x y : Mu} {f p L : Nat} (h7 : y.1 7 2 = nI p) (h4 : y.1 7 1 = nI L) (hp : p < L) (hL : L ≤ 60) : lp_X8_faulty_35 x (f + 1) (-2000000004) y = if ((sp_X8_doesNext y).1 : Int32) ≤ 0 then lp_X8_faulty_35 x f (-2000000004) (pM ((sp_X8_doesNext y).2) 7 3 ((sp_X8_doesNext y).1)) else lp_X8_faulty_35 x f (nI p) (pM ((sp_X8_doesNext y).2) 7 3 ((sp_X8_doesNext y).1)) := by
  conv => lhs; unfold lp_X8_faulty_35
  rw [h7, h4, nI_clamp (by omega), nI_clamp (by omega), if_neg (by rw [nI_leI (by omega) (by omega)]; omega), if_pos rfl]
theorem ord_lp {x μ0 : Mu} {L : Nat} : ∀ (d k p B : Nat) (m : Mu), L ≤ p + d → k ≤ p → B + d < 2 ^ 30 → (∃ y0, ORd B L p m y0) → m.1 6 77 = nI p → m.1 6 78 = 0 → m.1 6 79 = nI k → ∀ f, f + k = 61 → ∃ m', lp_X7_tryOrders_28 μ0 f k m = m' ∧ FrP m m' ∧ ((m'.1 6 78 = 0 ∧ ∃ N, N ≤ 60 ∧ m'.1 6 79 = nI N ∧ ∀ y, ORd B L p m y → (∀ x f2, 62 ≤ p + f2 → ∃ y', lp_X8_faulty_35 x f2 (-2000000004) y = lp_X8_faulty_83 x 260 (-2000000004) 0 y') ∧ ∃ y', SimS (B + d) (m'.1 1) (y'.1 8) ∧ FrZ y y' ∧ ∀ x2 f2, 62 ≤ p + f2 → lp_X8_play_23 x2 f2 (nI k) y = ((sp_X8_acted y' (nI N)).1, (sp_X8_acted y' (nI N)).2)) ∨ (∃ c q, 1 ≤ c ∧ c < 4 ∧ q ≤ L ∧ m'.1 6 78 = nI c ∧ m'.1 6 77 = nI q ∧ ∀ y, ORd B L p m y → ∀ x f2, 62 ≤ p + f2 → ∃ y', lp_X8_faulty_35 x f2 (-2000000004) y = lp_X8_faulty_83 x 260 (nI q) 0 y' ∧ y'.1 7 3 = nI c)) := by
  intro d
  induction d with
  | zero =>
    intro k p B m hd hk hB ⟨y0, h0⟩ e77 e78 e79 f hf
    have hL := h0.2.1
    have hpL := h0.2.2.2.2.2.2
    have epL : p = L := by omega
    obtain ⟨f, rfl⟩ : ∃ f0, f = f0 + 1 := ⟨f - 1, by omega⟩
    refine ⟨m, ?_, frP_r, Or.inl ⟨e78, k, by omega, e79, fun y hy => ⟨fun x f2 hf2 => ⟨y, ?_⟩, y, hy.1, frZ_r, fun x2 f2 hf2 => ?_⟩⟩⟩
    · unfold lp_X7_tryOrders_28
      by_cases c : (60 : Int32) ≤ nI k
      · rw [if_pos c]
      · rw [if_neg c, h0.2.2.1, e77, if_pos (by rw [nI_leI (by omega) (by omega)]; omega)]
    · obtain ⟨f2, rfl⟩ : ∃ f0, f2 = f0 + 1 := ⟨f2 - 1, by omega⟩
      unfold lp_X8_faulty_35
      rw [hy.2.2.2.1, hy.2.2.2.2.2.1, nI_clamp (by omega), nI_clamp (by omega), if_pos (by rw [nI_leI (by omega) (by omega)]; omega)]
    · obtain ⟨f2, rfl⟩ : ∃ f0, f2 = f0 + 1 := ⟨f2 - 1, by omega⟩
      unfold lp_X8_play_23
      rw [hy.2.2.2.1, hy.2.2.2.2.2.1, nI_clamp (by omega), nI_clamp (by omega), if_pos (by rw [nI_leI (by omega) (by omega)]; omega)]
  | succ d ih =>
    intro k p B m hd hk hB ⟨y0, h0⟩ e77 e78 e79 f hf
    have hL := h0.2.1
    have hpL := h0.2.2.2.2.2.2
    by_cases cp : p < L
    · obtain ⟨f, rfl⟩ : ∃ f0, f = f0 + 1 := ⟨f - 1, by omega⟩
      have hB' : B < 2 ^ 30 := by omega
      have step : lp_X7_tryOrders_28 μ0 (f + 1) k m = if (sp_X6_parse m (nI p)).1 = 0 then pM ((sp_X6_parse m (nI p)).2) 6 78 1 else if (sp_X7_obey (sp_X6_parse m (nI p)).2).1 = 0 then lp_X7_tryOrders_28 μ0 f (k + 1) (pM (pM (pM ((sp_X7_obey (sp_X6_parse m (nI p)).2).2) 6 78 ((sp_X7_obey (sp_X6_parse m (nI p)).2).1)) 6 79 (((sp_X7_obey (sp_X6_parse m (nI p)).2).2.1 6 79) + 1)) 6 77 ((sp_X7_obey (sp_X6_parse m (nI p)).2).2.1 6 7)) else pM ((sp_X7_obey (sp_X6_parse m (nI p)).2).2) 6 78 ((sp_X7_obey (sp_X6_parse m (nI p)).2).1) := by
        conv => lhs; unfold lp_X7_tryOrders_28
        rw [if_neg (by rw [show (60 : Int32) = nI 60 from rfl, nI_leI (by omega) (by omega)]; omega), h0.2.2.1, e77, if_neg (by rw [nI_leI (by omega) (by omega)]; omega)]
      obtain ⟨⟨fO, -⟩, os⟩ := os_ok hB' h0 cp
      rcases os with ⟨p0, -⟩ | ⟨p1, fO2, c, hc, o1, o2, o3⟩
      · -- no order
        refine ⟨pM ((sp_X6_parse m (nI p)).2) 6 78 1, by rw [step, if_pos p0], frP_t (frP_O fO) (frP_p (by omega)), Or.inr ⟨1, p, by omega, by omega, hpL, row_at _, by rw [row_k _ (by omega), fO.2.2 77 (by omega)]; exact e77, fun y hy x f2 hf2 => ?_⟩⟩
        obtain ⟨-, os'⟩ := os_ok hB' hy cp
        have e1 : (sp_X8_doesNext y).1 = 1 := by
          rcases os' with ⟨-, q⟩ | ⟨q, -⟩
          · exact q
          · exact absurd p0 q
        obtain ⟨f2, rfl⟩ : ∃ f0, f2 = f0 + 1 + 1 := ⟨f2 - 2, by omega⟩
        refine ⟨pM ((sp_X8_doesNext y).2) 7 3 1, ?_, row_at _⟩
        rw [l35_s hy.2.2.2.2.2.1 hy.2.2.2.1 cp hL, e1, if_neg (by decide), l35_e (by omega)]
      · have o7 : (sp_X7_obey (sp_X6_parse m (nI p)).2).2.1 6 77 = nI p := by rw [fO2.2.2 77 (by omega)]; exact e77
        by_cases z : c = 0
        · subst z
          obtain ⟨p', hp', hpL', e67, -⟩ := o3 rfl
          have o9 : (sp_X7_obey (sp_X6_parse m (nI p)).2).2.1 6 79 = nI k := by rw [fO2.2.2 79 (by omega)]; exact e79
          rw [o1, o9, nI_1, e67] at step
          rw [if_neg p1, if_pos (show nI 0 = 0 from rfl)] at step
          generalize ha : (sp_X7_obey (sp_X6_parse m (nI p)).2).2 = a at *
          have fP : FrP m (pM (pM (pM a 6 78 (nI 0)) 6 79 (nI (k + 1))) 6 77 (nI p')) := frP_t (frP_t (frP_t (frP_O fO2) (frP_p (by omega))) (frP_p (by omega))) (frP_p (by omega))
          -- any memory of the reference goes on so
          have nxt : ∀ y, ORd B L p m y → (sp_X8_doesNext y).1 = 0 ∧ FrZ y (sp_X8_doesNext y).2 ∧ ORd (B + 1) L p' (pM (pM (pM a 6 78 (nI 0)) 6 79 (nI (k + 1))) 6 77 (nI p')) (sp_X8_doesNext y).2 := by
            intro y hy
            obtain ⟨⟨-, fZ⟩, os'⟩ := os_ok hB' hy cp
            rcases os' with ⟨q, -⟩ | ⟨-, -, c', hc', u1, u2, u3⟩
            · exact absurd q p1
            · have ec : c' = 0 := nI_ij (by omega) (by omega) (u1.symm.trans o1)
              subst ec
              obtain ⟨p'', v1, v2, v3, v4⟩ := u3 rfl
              rw [ha] at v3 v4
              have ep : p'' = p' := nI_ij (by omega) (by omega) (v3.symm.trans e67)
              subst ep
              exact ⟨u2, fZ, or_eq v4 (fun z _ => by rw [row_n _ (by omega), row_n _ (by omega), row_n _ (by omega)]) (by rw [row_k _ (by omega), row_k _ (by omega), row_k _ (by omega)]) (fun i hi => by rw [row_k _ (by omega), row_k _ (by omega), row_k _ (by omega)]) (fun _ _ => rfl) rfl (fun _ _ => rfl) rfl⟩
          have h73 : ∀ {q : Mu} {v : Int32}, ORd (B + 1) L p' (pM (pM (pM a 6 78 (nI 0)) 6 79 (nI (k + 1))) 6 77 (nI p')) q → ORd (B + 1) L p' (pM (pM (pM a 6 78 (nI 0)) 6 79 (nI (k + 1))) 6 77 (nI p')) (pM q 7 3 v) := fun g => or_eq g (fun _ _ => rfl) rfl (fun _ _ => rfl) (fun z _ => by rw [row_n _ (by omega)]) (row_k _ (by omega)) (fun i _ => by rw [row_n _ (by omega)]) (row_k _ (by omega))
          obtain ⟨m', w1, w2, w3⟩ := ih (k + 1) p' (B + 1) (pM (pM (pM a 6 78 (nI 0)) 6 79 (nI (k + 1))) 6 77 (nI p')) (by omega) (by omega) (by omega) ⟨_, (nxt y0 h0).2.2⟩ (row_at _) (by rw [row_k _ (by omega), row_k _ (by omega)]; exact row_at _) (by rw [row_k _ (by omega)]; exact row_at _) f (by omega)
          refine ⟨m', step.trans w1, frP_t fP w2, ?_⟩
          rcases w3 with ⟨g1, N, g2, g3, g4⟩ | ⟨c', q, g1, g2, g3, g4, g5, g6⟩
          · refine Or.inl ⟨g1, N, g2, g3, fun y hy => ?_⟩
            obtain ⟨n1, n2, n3⟩ := nxt y hy
            refine ⟨fun x f2 hf2 => ?_, ?_⟩
            · obtain ⟨f2, rfl⟩ : ∃ f0, f2 = f0 + 1 := ⟨f2 - 1, by omega⟩
              rw [l35_s hy.2.2.2.2.2.1 hy.2.2.2.1 cp hL, n1, if_pos (by decide)]
              exact (g4 _ (h73 n3)).1 x f2 (by omega)
            · obtain ⟨-, y', s1, s2, s3⟩ := g4 _ n3
              refine ⟨y', by rw [show B + (d + 1) = B + 1 + d by omega]; exact s1, frZ_t n2 s2, fun x2 f2 hf2 => ?_⟩
              obtain ⟨f2, rfl⟩ : ∃ f0, f2 = f0 + 1 := ⟨f2 - 1, by omega⟩
              rw [← s3 x2 f2 (by omega)]
              conv => lhs; unfold lp_X8_play_23
              rw [hy.2.2.2.1, hy.2.2.2.2.2.1, nI_clamp (by omega), nI_clamp (by omega), if_neg (by rw [nI_leI (by omega) (by omega)]; omega), n1, if_pos rfl, nI_1]
          · refine Or.inr ⟨c', q, g1, g2, g3, g4, g5, fun y hy x f2 hf2 => ?_⟩
            obtain ⟨n1, n2, n3⟩ := nxt y hy
            obtain ⟨f2, rfl⟩ : ∃ f0, f2 = f0 + 1 := ⟨f2 - 1, by omega⟩
            rw [l35_s hy.2.2.2.2.2.1 hy.2.2.2.1 cp hL, n1, if_pos (by decide)]
            exact g6 _ (h73 n3) x f2 (by omega)
        · -- an order that is not possible
          have oz : ¬ (sp_X7_obey (sp_X6_parse m (nI p)).2).1 = 0 := by rw [o1]; exact nI_ne0 (by omega) (by omega)
          rw [if_neg p1, if_neg oz] at step
          refine ⟨_, step, frP_t (frP_O fO2) (frP_p (by omega)), Or.inr ⟨c, p, by omega, hc, hpL, by rw [row_at]; exact o1, by rw [row_k _ (by omega)]; exact o7, fun y hy x f2 hf2 => ?_⟩⟩
          obtain ⟨-, os'⟩ := os_ok hB' hy cp
          have e1 : (sp_X8_doesNext y).1 = nI c := by
            rcases os' with ⟨q, -⟩ | ⟨-, -, c', hc', u1, u2, -⟩
            · exact absurd q p1
            · rw [u2, ← u1, o1]
          obtain ⟨f2, rfl⟩ : ∃ f0, f2 = f0 + 1 + 1 := ⟨f2 - 2, by omega⟩
          refine ⟨pM ((sp_X8_doesNext y).2) 7 3 (nI c), ?_, row_at _⟩
          rw [l35_s hy.2.2.2.2.2.1 hy.2.2.2.1 cp hL, e1, if_neg (nI_nle (by omega) (by omega)), l35_e (by omega)]
    · have q := ih k p B m (by omega) hk (by omega) ⟨y0, h0⟩ e77 e78 e79 f hf
      obtain ⟨m', w1, w2, w3⟩ := q
      refine ⟨m', w1, w2, ?_⟩
      rcases w3 with ⟨g1, N, g2, g3, g4⟩ | g
      · refine Or.inl ⟨g1, N, g2, g3, fun y hy => ?_⟩
        obtain ⟨s1, y', s2, s3⟩ := g4 y hy
        exact ⟨s1, y', simS_mono s2 (by omega), s3⟩
      · exact Or.inr g
/-- the start of the orders -/
theorem try_ok {B : Nat} {μ : Mu} (h : Inv B μ) (hB : B + 61 < 2 ^ 30) : ∃ L m0, m0.1 6 3 = nI L ∧ FrP μ (sp_X7_tryOrders μ) ∧ (∀ y, (∀ z, z < 259 → y.1 8 z = μ.1 8 z) → y.1 7 1 = μ.1 7 1 → (∀ i, i < 60 → y.1 12 i = μ.1 12 i) → y.1 7 2 = 0 → ORd B L 0 m0 y) ∧ (((sp_X7_tryOrders μ).1 6 78 = 0 ∧ ∃ N, N ≤ 60 ∧ (sp_X7_tryOrders μ).1 6 79 = nI N ∧ ∀ y, ORd B L 0 m0 y → (∀ x f2, 62 ≤ 0 + f2 → ∃ y', lp_X8_faulty_35 x f2 (-2000000004) y = lp_X8_faulty_83 x 260 (-2000000004) 0 y') ∧ ∃ y', SimS (B + 60) ((sp_X7_tryOrders μ).1 1) (y'.1 8) ∧ FrZ y y' ∧ ∀ x2 f2, 62 ≤ 0 + f2 → lp_X8_play_23 x2 f2 (nI 0) y = ((sp_X8_acted y' (nI N)).1, (sp_X8_acted y' (nI N)).2)) ∨ (∃ c q, 1 ≤ c ∧ c < 4 ∧ q ≤ L ∧ (sp_X7_tryOrders μ).1 6 78 = nI c ∧ (sp_X7_tryOrders μ).1 6 77 = nI q ∧ ∀ y, ORd B L 0 m0 y → ∀ x f2, 62 ≤ 0 + f2 → ∃ y', lp_X8_faulty_35 x f2 (-2000000004) y = lp_X8_faulty_83 x 260 (nI q) 0 y' ∧ y'.1 7 3 = nI c)) := by
  obtain ⟨⟨L, hL, t1, t2⟩, t3, t4⟩ := h.2.2
  have cp := cp_X4 μ (j := 1) (j2 := 0) (by omega)
  generalize hM : sp_X4_copy μ 1 0 = M at *
  have fP : FrP μ (pM (pM (pM M 6 78 0) 6 77 0) 6 79 0) := frP_t (frP_t (frP_t ⟨congrArg Prod.snd cp.1, fun c h1 _ => cp.2.1 c h1, fun k _ => by rw [cp.2.1 6 (by omega)]⟩ (frP_p (by omega))) (frP_p (by omega))) (frP_p (by omega))
  have or0 : ∀ y : Mu, (∀ z, z < 259 → y.1 8 z = μ.1 8 z) → y.1 7 1 = μ.1 7 1 → (∀ i, i < 60 → y.1 12 i = μ.1 12 i) → y.1 7 2 = 0 → ORd B L 0 (pM (pM (pM M 6 78 0) 6 77 0) 6 79 0) y := by
    intro y e8 e71 e12 e72
    refine ⟨simS_eq h.1 (fun z hz => ?_) e8, hL, (fP.2.2 3 (by omega)).trans t1, e71.trans t2, fun i hi => ?_, e72, Nat.zero_le _⟩
    · rw [row_n _ (by omega), row_n _ (by omega), row_n _ (by omega)]
      exact cp.2.2.1 z hz
    · rw [fP.2.2 _ (by omega), e12 i hi]; exact t3 i hi
  have hex : ∃ y0, ORd B L 0 (pM (pM (pM M 6 78 0) 6 77 0) 6 79 0) y0 := ⟨pM μ 7 2 0, or0 _ (fun z _ => by rw [row_n _ (by omega)]) (row_k _ (by omega)) (fun i _ => by rw [row_n _ (by omega)]) (row_at _)⟩
  obtain ⟨m', w1, w2, w3⟩ := ord_lp (x := μ) (μ0 := μ) (L := L) 60 0 0 B (pM (pM (pM M 6 78 0) 6 77 0) 6 79 0) (by omega) (by omega) (by omega) hex (by rw [row_k _ (by omega)]; exact row_at _) (by rw [row_k _ (by omega), row_k _ (by omega)]; exact row_at _) (row_at _) 61 rfl
  have et : sp_X7_tryOrders μ = m' := by
    unfold sp_X7_tryOrders
    rw [hM]
    exact w1
  rw [et]
  exact ⟨L, _, (fP.2.2 3 (by omega)).trans t1, frP_t fP w2, or0, w3⟩
theorem inv_mono {B B' : Nat} {μ : Mu} (h : Inv B μ) (hB : B ≤ B') : Inv B' μ := inv_same h hB rfl (fun _ _ _ _ _ => rfl) rfl rfl (fun _ _ => rfl) rfl rfl (fun _ _ => rfl) (fun _ _ => rfl) (fun _ _ => rfl)
theorem inv_P {B : Nat} {μ T : Mu} (h : Inv B μ) (f : FrP μ T) : Inv B T := inv_same h (Nat.le_refl _) f.1 (fun j hj h1 y _ => by rw [f.2.1 j h1 (by omega)]) (f.2.2 0 (by omega)) (f.2.2 3 (by omega)) (fun y hy => f.2.2 _ (by omega)) (by rw [f.2.1 7 (by omega) (by omega)]) (by rw [f.2.1 7 (by omega) (by omega)]) (fun y _ => by rw [f.2.1 8 (by omega) (by omega)]) (fun y _ => by rw [f.2.1 9 (by omega) (by omega)]) (fun y _ => by rw [f.2.1 12 (by omega) (by omega)])
theorem inv_F {B : Nat} {T : Mu} (h : Inv B T) : Inv B (sp_X8_faulty T).2 := by
  obtain ⟨⟨L, hL, t1, t2⟩, -, -⟩ := h.2.2
  have hty : ni 61 (T.1 7 1) := by rw [t2]; exact ni_nI (by omega) (by omega)
  obtain ⟨q1, q2⟩ := faulty_left hty
  have lo := lo_faulty T
  exact inv_same h (Nat.le_refl _) (congrArg Prod.snd lo.1) (fun j hj _ y _ => by rw [lo.2 j (by omega)]) (by rw [lo.2 6 (by omega)]) (by rw [lo.2 6 (by omega)]) (fun y _ => by rw [lo.2 6 (by omega)]) q2.1 q2.2.1 q1 (fun y _ => by rw [q2.2.2.1]) (fun y _ => by rw [q2.2.2.2.2])
theorem st_fault {B : Nat} {μ : Mu} (h : Inv B μ) (hB : B + 61 < 2 ^ 30) (a : Int32) : Stq B (sp_X7_fault μ a) (fun m => sp_X8_fault m a) := by
  obtain ⟨L, m0, -, fP, or0, res⟩ := try_ok h hB
  unfold sp_X7_fault
  generalize sp_X7_tryOrders μ = T at *
  by_cases c : (0 : Int32) ≤ a ∧ a ≤ 1
  · rw [if_pos ((i2l a).mpr c)]
    have hT := inv_P h fP
    have hF := inv_F hT
    obtain ⟨y, f1, f2, f3⟩ := faulty_35 T
    have oy : ORd B L 0 m0 (pM y 7 2 0) := or0 _ (fun z _ => by rw [row_n _ (by omega), f3 8 (by omega), fP.2.1 8 (by omega) (by omega)]) (by rw [row_k _ (by omega), f3 7 (by omega), fP.2.1 7 (by omega) (by omega)]) (fun i _ => by rw [row_n _ (by omega), f3 12 (by omega), fP.2.1 12 (by omega) (by omega)]) (row_at _)
    have fin : ∀ x : Int32, (sp_X8_fault T a) = (x, (sp_X8_faulty T).2) → Stq B (x, T) (fun m => sp_X8_fault m a) := by
      intro x e
      show x = (sp_X8_fault T a).1 ∧ Inv B (sp_X8_fault T a).2
      rw [e]
      dsimp only
      exact ⟨rfl, hF⟩
    rcases res with ⟨g1, N, g2, g3, g4⟩ | ⟨cc, q, g1, g2, g3, g4, g5, g6⟩
    · rw [g1, if_pos rfl]
      obtain ⟨y', e⟩ := (g4 _ oy).1 T 62 (by omega)
      have e1 : (sp_X8_faulty T).1 = -2000000004 := by
        rw [f1, e]
        exact (r83_1 260 _ 0 y' rfl (by omega)).1
      apply fin
      unfold sp_X8_fault
      rw [if_pos c, e1, if_pos rfl]
    · obtain ⟨y', e, e3⟩ := g6 _ oy T 62 (by omega)
      obtain ⟨r1, r2⟩ := r83_1 (x := T) 260 (nI q) 0 y' rfl (by omega)
      have e1 : (sp_X8_faulty T).1 = nI q := by rw [f1, e]; exact r1
      have e2 : (sp_X8_faulty T).2.1 7 3 = nI cc := by rw [f1, e, r2]; exact e3
      have hL := oy.2.1
      have nq : ¬ nI q = -2000000004 := fun z => by
        have := congrArg Int32.toInt z
        rw [nI_toInt (by omega), show (-2000000004 : Int32).toInt = -2000000004 by decide] at this
        omega
      rw [g4, if_neg (nI_ne0 (by omega) (by omega)), g5]
      by_cases z : a = 0
      · rw [if_pos z]
        apply fin
        unfold sp_X8_fault
        rw [if_pos c, e1, if_neg nq, if_pos z]
      · rw [if_neg z]
        apply fin
        unfold sp_X8_fault
        rw [if_pos c, e1, if_neg nq, if_neg z, e2]
  · rw [if_neg (fun q => c ((i2l a).mp q))]
    refine stq_rd h ?_
    show sp_X8_fault _ a = _
    unfold sp_X8_fault
    rw [if_neg c]
theorem st_play {B : Nat} {μ : Mu} (h : Inv B μ) (hB : B + 61 < 2 ^ 30) : Stq (B + 61) (sp_X7_play μ) (fun m => sp_X8_play m) := by
  obtain ⟨L, m0, -, fP, or0, res⟩ := try_ok h hB
  unfold sp_X7_play
  generalize sp_X7_tryOrders μ = T at *
  have hT := inv_P h fP
  rcases res with ⟨g1, N, g2, g3, g4⟩ | ⟨cc, q, g1, g2, g3, g4, g5, g6⟩
  · rw [g1, if_pos rfl]
    have cp := cp_X4 (sp_X0_record T) (j := 0) (j2 := 1) (by omega)
    generalize sp_X4_copy (sp_X0_record T) 0 1 = x at *
    have x7 : ∀ c, 7 ≤ c → x.1 c = T.1 c := fun c hc => (cp.2.1 c (by omega)).trans (rec_7 hT hc)
    have x6 : ∀ k, k ≠ 0 → x.1 6 k = T.1 6 k := fun k hk => by rw [cp.2.1 6 (by omega)]; exact rec_6 hT hk
    have x01 : ∀ z, z < 253 → x.1 0 z = T.1 1 z := fun z hz => by
      rw [cp.2.2.1 z hz]
      obtain ⟨st, hst, b1, b2, b3, -⟩ := hT.2.1
      obtain ⟨-, -, -, -, r5, -⟩ := rec_ok T b1 hst b3
      have := Kr_ok (st := st) b3 (min st 3) (by omega)
      rw [r5 1 (by omega) (by omega)]
    have xK : x.2.2 = (sp_X0_record T).2.2 := congrArg Prod.snd cp.1
    -- the reference looks for a fault and finds none
    obtain ⟨y, f1, f2, f3⟩ := faulty_35 x
    have oy : ORd B L 0 m0 (pM y 7 2 0) := or0 _ (fun z _ => by rw [row_n _ (by omega), f3 8 (by omega), x7 8 (by omega), fP.2.1 8 (by omega) (by omega)]) (by rw [row_k _ (by omega), f3 7 (by omega), x7 7 (by omega), fP.2.1 7 (by omega) (by omega)]) (fun i _ => by rw [row_n _ (by omega), f3 12 (by omega), x7 12 (by omega), fP.2.1 12 (by omega) (by omega)]) (row_at _)
    obtain ⟨y', e⟩ := (g4 _ oy).1 x 62 (by omega)
    have e1 : (sp_X8_faulty x).1 = -2000000004 := by
      rw [f1, e]
      exact (r83_1 260 _ 0 y' rfl (by omega)).1
    obtain ⟨⟨L', hL', t1, t2⟩, -, -⟩ := hT.2.2
    have hty : ni 61 (x.1 7 1) := by rw [x7 7 (by omega), t2]; exact ni_nI (by omega) (by omega)
    obtain ⟨q1, q2⟩ := faulty_left hty
    have lo := lo_faulty x
    have ep : sp_X8_play x = lp_X8_play_23 x 62 (0 : Int32) (pM (pC ((sp_X8_faulty x).2) 11 0 8 0 259) 7 2 (0 : Int32)) := by
      unfold sp_X8_play
      rw [e1, if_pos rfl]
    generalize (sp_X8_faulty x).2 = F at *
    have k8 : ∀ c, c ≠ 7 → c ≠ 11 → (pM (pC F 11 0 8 0 259) 7 2 (0 : Int32)).1 c = F.1 c := fun c h1 h2 => (row_n _ h1).trans (pC_row h2)
    have k7 : ∀ k, k ≠ 2 → (pM (pC F 11 0 8 0 259) 7 2 (0 : Int32)).1 7 k = F.1 7 k := fun k hk => by rw [row_k _ hk, pC_row (by omega)]
    have oz : ORd B L 0 m0 (pM (pC F 11 0 8 0 259) 7 2 (0 : Int32)) := or0 _ (fun z hz => by rw [k8 8 (by omega) (by omega), q1 z hz, x7 8 (by omega), fP.2.1 8 (by omega) (by omega)]) (by rw [k7 1 (by omega), q2.2.1, x7 7 (by omega), fP.2.1 7 (by omega) (by omega)]) (fun i _ => by rw [k8 12 (by omega) (by omega), q2.2.2.2.2, x7 12 (by omega), fP.2.1 12 (by omega) (by omega)]) (row_at _)
    obtain ⟨-, Y, s1, s2, s3⟩ := g4 _ oz
    have ez := s3 x 62 (by omega)
    have z11 : ∀ z, z < 259 → (pM (pC F 11 0 8 0 259) 7 2 (0 : Int32)).1 11 z = T.1 8 z := fun z hz => by rw [row_n _ (by omega), kp_11 _ hz, q1 z hz, x7 8 (by omega)]
    have z2 : (pM (pC F 11 0 8 0 259) 7 2 (0 : Int32)).2.2 = x.2.2 := congrArg Prod.snd lo.1
    have YF : ∀ c, c < 7 → Y.1 c = x.1 c := fun c hc => (s2.2.1 c (by omega) (by omega) (by omega)).trans ((k8 c (by omega) (by omega)).trans (lo.2 c hc))
    have hN : ¬ nI N ≤ -2000000001 := nle_bd (by rw [nI_toInt (by omega)]; omega)
    obtain ⟨u1, u2⟩ := inv_ch (B' := B + 61) (a := x) (m := Y) (w := nI N) hT (by omega) xK (fun j h1 h2 z _ => by rw [cp.2.1 j (by omega)]) (by rw [cp.2.1 6 (by omega)]) (x6 3 (by omega)) (fun z _ => x6 _ (by omega)) ((congrArg Prod.snd s2.1).trans z2) YF (by rw [s2.2.2 0 (by omega), k7 0 (by omega), q2.1, x7 7 (by omega)]) (by rw [s2.2.2 1 (by omega), k7 1 (by omega), q2.2.1, x7 7 (by omega)]) (by rw [s2.2.1 9 (by omega) (by omega) (by omega), k8 9 (by omega) (by omega), q2.2.2.1, x7 9 (by omega)]) (by rw [s2.2.1 12 (by omega) (by omega) (by omega), k8 12 (by omega) (by omega), q2.2.2.2.2, x7 12 (by omega)]) (fun z hz => by rw [s2.2.1 11 (by omega) (by omega) (by omega)]; exact z11 z hz) hN (simS_mono (simS_eq s1 x01 (fun _ _ => rfl)) (by omega))
    have er : sp_X8_play x = ((sp_X8_acted Y (nI N)).1, (sp_X8_acted Y (nI N)).2) := ep.trans ez
    show x.1 6 79 = (sp_X8_play x).1 ∧ Inv (B + 61) (sp_X8_play x).2
    rw [er, x6 79 (by omega), g3]
    exact ⟨u1.symm, u2⟩
  · rw [g4, if_neg (nI_ne0 (by omega) (by omega))]
    obtain ⟨y, f1, f2, f3⟩ := faulty_35 T
    have oy : ORd B L 0 m0 (pM y 7 2 0) := or0 _ (fun z _ => by rw [row_n _ (by omega), f3 8 (by omega), fP.2.1 8 (by omega) (by omega)]) (by rw [row_k _ (by omega), f3 7 (by omega), fP.2.1 7 (by omega) (by omega)]) (fun i _ => by rw [row_n _ (by omega), f3 12 (by omega), fP.2.1 12 (by omega) (by omega)]) (row_at _)
    obtain ⟨y', e, e3⟩ := g6 _ oy T 62 (by omega)
    obtain ⟨r1, r2⟩ := r83_1 (x := T) 260 (nI q) 0 y' rfl (by omega)
    have e1 : (sp_X8_faulty T).1 = nI q := by rw [f1, e]; exact r1
    have hL := oy.2.1
    have nq : ¬ nI q = -2000000004 := fun z => by
      have := congrArg Int32.toInt z
      rw [nI_toInt (by omega), show (-2000000004 : Int32).toInt = -2000000004 by decide] at this
      omega
    have er : sp_X8_play T = (-2000000002, (sp_X8_faulty T).2) := by
      unfold sp_X8_play
      rw [e1, if_neg nq]
    show (-2000000002 : Int32) = (sp_X8_play T).1 ∧ Inv (B + 61) (sp_X8_play T).2
    rw [er]
    dsimp only
    have hF := inv_F hT
    generalize (sp_X8_faulty T).2 = F at *
    exact ⟨rfl, inv_mono hF (by omega)⟩
