/-! ===== the form of an order ===== -/
/-- the class's memory behind reading an order: row 6, 4 to 7 alone -/
def FrD (m m' : Mu) : Prop := m'.2 = m.2 ∧ (∀ c, c ≠ 6 → m'.1 c = m.1 c) ∧ ∀ k, (k < 4 ∨ 7 < k) → m'.1 6 k = m.1 6 k
theorem frD_t {a b c : Mu} (h1 : FrD a b) (h2 : FrD b c) : FrD a c := ⟨h2.1.trans h1.1, fun k hk => (h2.2.1 k hk).trans (h1.2.1 k hk), fun k hk => (h2.2.2 k hk).trans (h1.2.2 k hk)⟩
theorem frD_C {a b : Mu} (h : FrC a b) : FrD a b := ⟨h.1, h.2.1, fun k hk => h.2.2 k (by omega)⟩
theorem frD_p {m : Mu} {k : Nat} {v : Int32} (hk : 4 ≤ k ∧ k ≤ 7) : FrD m (pM m 6 k v) := ⟨rfl, fun _ h => row_n _ h, fun _ h => row_k _ (by omega)⟩
theorem frD_r {m : Mu} : FrD m m := ⟨rfl, fun _ _ => rfl, fun _ _ => rfl⟩
theorem ps_d {L p q : Nat} {m y m' y' : Mu} (h : PS L p m y) (hq : q ≤ L) (fc : FrD m m') (fy : FrY y y') (e1 : m'.1 6 7 = nI q) (e2 : y'.1 7 2 = nI q) : PS L q m' y' := by
  obtain ⟨h1, h2, h3, h4, h5, -, -⟩ := h
  exact ⟨hq, h2, (fc.2.2 3 (by omega)).trans h3, (fy.2.2 1 (by omega)).trans h4, fun i hi => by rw [fc.2.2 _ (by omega), fy.2.1 12 (by omega) (by omega)]; exact h5 i hi, e1, e2⟩
def prG (d : Int32 × Mu) : Int32 × Mu := if (0 : Int32) ≤ d.1 then (if (d.2.1 6 4 : Int32) = 114 then ((sp_X6_takes (pM d.2 6 5 d.1) (59 : Int32)).1, (sp_X6_takes (pM d.2 6 5 d.1) (59 : Int32)).2) else (if ((sp_X6_parsesNumber (pM d.2 6 5 d.1)).1 : Int32) = 0 then (0, (sp_X6_parsesNumber (pM d.2 6 5 d.1)).2) else (if ((sp_X6_takes (sp_X6_parsesNumber (pM d.2 6 5 d.1)).2 (59 : Int32)).1 : Int32) = 0 then (0, (sp_X6_takes (sp_X6_parsesNumber (pM d.2 6 5 d.1)).2 (59 : Int32)).2) else (1, (sp_X6_takes (sp_X6_parsesNumber (pM d.2 6 5 d.1)).2 (59 : Int32)).2)))) else (0, pM d.2 6 5 d.1)
theorem par_s {m : Mu} {w c : Int32} (hc : sp_X6_characterAt (m.1 6) w = c) (h : c = 115) : sp_X6_parse m w = ((sp_X6_takes (pM (pM m 6 4 c) 6 7 (w + 1)) (59 : Int32)).1, (sp_X6_takes (pM (pM m 6 4 c) 6 7 (w + 1)) (59 : Int32)).2) := by
  unfold sp_X6_parse
  rw [hc, if_pos h]
theorem par_G {m : Mu} {w c : Int32} (hc : sp_X6_characterAt (m.1 6) w = c) (h : c = 116 ∨ c = 114 ∨ c = 98 ∨ c = 109) : sp_X6_parse m w = prG (sp_X6_parsedDigits (pM (pM m 6 4 c) 6 7 (w + 1))) := by
  unfold sp_X6_parse prG
  rw [hc]
  rcases h with rfl | rfl | rfl | rfl
  · rw [if_neg (by decide), if_pos rfl]
  · rw [if_neg (by decide), if_neg (by decide), if_pos rfl]
  · rw [if_neg (by decide), if_neg (by decide), if_neg (by decide), if_pos rfl]
  · rw [if_neg (by decide), if_neg (by decide), if_neg (by decide), if_neg (by decide), if_pos rfl]
theorem par_o {m : Mu} {w c : Int32} (hc : sp_X6_characterAt (m.1 6) w = c) (h : ¬ (c = 115 ∨ c = 116 ∨ c = 114 ∨ c = 98 ∨ c = 109)) : sp_X6_parse m w = (0, pM (pM m 6 4 c) 6 7 (w + 1)) := by
  unfold sp_X6_parse
  rw [hc, if_neg (fun q => h (Or.inl q)), if_neg (fun q => h (Or.inr (Or.inl q))), if_neg (fun q => h (Or.inr (Or.inr (Or.inl q)))), if_neg (fun q => h (Or.inr (Or.inr (Or.inr (Or.inl q))))), if_neg (fun q => h (Or.inr (Or.inr (Or.inr (Or.inr q)))))]
/-- reading one of the letters with two numbers -/
def rfN (y : Mu) : Int32 × Mu := if ((sp_X8_takes y 0).1 : Int32) = 0 then (0, (sp_X8_takes y 0).2) else (if ((sp_X8_passes ((sp_X8_takes y 0).2) (44 : Int32)).1 : Int32) = 0 then (0, pM ((sp_X8_passes ((sp_X8_takes y 0).2) (44 : Int32)).2) 13 1 (((sp_X8_passes ((sp_X8_takes y 0).2) (44 : Int32)).2).1 13 1)) else (if ((sp_X8_takes ((sp_X8_passes ((sp_X8_takes y 0).2) (44 : Int32)).2) 1).1 : Int32) = 0 then (0, pM ((sp_X8_takes ((sp_X8_passes ((sp_X8_takes y 0).2) (44 : Int32)).2) 1).2) 13 1 (((sp_X8_takes ((sp_X8_passes ((sp_X8_takes y 0).2) (44 : Int32)).2) 1).2).1 13 1)) else (if ((sp_X8_passes (pM ((sp_X8_takes ((sp_X8_passes ((sp_X8_takes y 0).2) (44 : Int32)).2) 1).2) 13 1 (((sp_X8_takes ((sp_X8_passes ((sp_X8_takes y 0).2) (44 : Int32)).2) 1).2).1 13 1)) (59 : Int32)).1 : Int32) = 0 then (0, (sp_X8_passes (pM ((sp_X8_takes ((sp_X8_passes ((sp_X8_takes y 0).2) (44 : Int32)).2) 1).2) 13 1 (((sp_X8_takes ((sp_X8_passes ((sp_X8_takes y 0).2) (44 : Int32)).2) 1).2).1 13 1)) (59 : Int32)).2) else (1, (sp_X8_passes (pM ((sp_X8_takes ((sp_X8_passes ((sp_X8_takes y 0).2) (44 : Int32)).2) 1).2) 13 1 (((sp_X8_takes ((sp_X8_passes ((sp_X8_takes y 0).2) (44 : Int32)).2) 1).2).1 13 1)) (59 : Int32)).2))))
theorem rdN_eq {y : Mu} {c : Int32} (h : c = 98 ∨ c = 109) : sp_X8_readsForm y c = rfN y := by
  unfold sp_X8_readsForm rfN
  rcases h with rfl | rfl
  · rw [if_neg (by decide), if_neg (by decide), if_neg (by decide), if_pos rfl]
  · rw [if_neg (by decide), if_neg (by decide), if_neg (by decide), if_neg (by decide), if_pos rfl]
/-- what reading an order gives -/
def FRes (L p : Nat) (c : Int32) (m y : Mu) (P R : Int32 × Mu) : Prop := FrD m P.2 ∧ FrY y R.2 ∧ ((P.1 = 0 ∧ R.1 = 0) ∨ ∃ p', p < p' ∧ P.1 = 1 ∧ R.1 = 1 ∧ PS L p' P.2 R.2 ∧ P.2.1 6 4 = c ∧ (¬ c = 115 → ∃ v, v < 1000000 ∧ P.2.1 6 5 = nI v ∧ R.2.1 13 0 = nI v) ∧ (¬ c = 115 → ¬ c = 114 → P.2.1 6 6 = R.2.1 13 1))
theorem fm_end {L p q : Nat} {c : Int32} {m y m5 y5 : Mu} (hp : p < q) (h : PS L q m5 y5) (f1 : FrD m m5) (f2 : FrY y y5) (e4 : m5.1 6 4 = c) (e5 : ¬ c = 115 → ∃ v, v < 1000000 ∧ m5.1 6 5 = nI v ∧ y5.1 13 0 = nI v) (e6 : ¬ c = 115 → ¬ c = 114 → m5.1 6 6 = y5.1 13 1) : (sp_X6_takes m5 59 = (0, m5) ∧ ∃ y', sp_X8_passes y5 59 = (0, y') ∧ FRes L p c m y (0, m5) (0, y')) ∨ ∃ m' y', sp_X6_takes m5 59 = (1, m') ∧ sp_X8_passes y5 59 = (1, y') ∧ FRes L p c m y (1, m') (1, y') := by
  rcases tk_ps h (show ¬ (59 : Int32) = 0 by decide) with ⟨a, y', b, d, fy, e13⟩ | ⟨m', y', a, b, d, fc, fy, e13⟩
  · exact Or.inl ⟨a, y', b, f1, frY_t f2 fy, Or.inl ⟨rfl, rfl⟩⟩
  · refine Or.inr ⟨m', y', a, b, frD_t f1 (frD_C fc), frY_t f2 fy, Or.inr ⟨q + 1, by omega, rfl, rfl, d, (fc.2.2 4 (by omega)).trans e4, fun h1 => ?_, fun h1 h2 => ?_⟩⟩
    · obtain ⟨v, v1, v2, v3⟩ := e5 h1
      exact ⟨v, v1, (fc.2.2 5 (by omega)).trans v2, (congrFun e13 0).trans v3⟩
    · show m'.1 6 6 = y'.1 13 1
      rw [fc.2.2 6 (by omega), e13]
      exact e6 h1 h2
theorem fm_ok {L p : Nat} {m y : Mu} (hp : p < L) (hL : L ≤ 60) (h3 : m.1 6 3 = nI L) (h4 : y.1 7 1 = nI L) (h5 : ∀ i, i < 60 → m.1 6 (8 + i) = y.1 12 i) (h7 : y.1 7 2 = nI p) : FRes L p (y.1 12 p) m y (sp_X6_parse m (nI p)) (sp_X8_readsForm (pM y 7 2 (nI (p + 1))) (y.1 12 p)) := by
  have hc : sp_X6_characterAt (m.1 6) (nI p) = y.1 12 p := by
    unfold sp_X6_characterAt
    rw [if_neg (nI_pos (by omega)), h3, if_neg (by rw [nI_leI (by omega) (by omega)]; omega), if_neg (by rw [show (60 : Int32) = nI 60 from rfl, nI_leI (by omega) (by omega)]; omega), nI_clamp (by omega), h5 p (by omega)]
  generalize y.1 12 p = c at *
  have fD4 : FrD m (pM (pM m 6 4 c) 6 7 (nI (p + 1))) := frD_t (frD_p (by omega)) (frD_p (by omega))
  have fY4 : FrY y (pM y 7 2 (nI (p + 1))) := frY_p
  have h0 : PS L (p + 1) (pM (pM m 6 4 c) 6 7 (nI (p + 1))) (pM y 7 2 (nI (p + 1))) := ⟨hp, hL, by rw [fD4.2.2 3 (by omega)]; exact h3, by rw [fY4.2.2 1 (by omega)]; exact h4, fun i hi => by rw [fD4.2.2 _ (by omega), fY4.2.1 12 (by omega) (by omega)]; exact h5 i hi, row_at _, row_at _⟩
  have e4 : (pM (pM m 6 4 c) 6 7 (nI (p + 1))).1 6 4 = c := by rw [row_k _ (by omega)]; exact row_at _
  by_cases cs : c = 115
  · rw [par_s hc cs, nI_1]
    unfold sp_X8_readsForm
    rw [if_pos cs]
    rcases fm_end (p := p) (by omega) h0 fD4 fY4 e4 (fun q => absurd cs q) (fun q => absurd cs q) with ⟨a, y', b, r⟩ | ⟨m', y', a, b, r⟩
    · rw [a, b]; exact r
    · rw [a, b]; exact r
  · by_cases cl : c = 116 ∨ c = 114 ∨ c = 98 ∨ c = 109
    · rw [par_G hc cl, nI_1]
      obtain ⟨q, m1, y1, d1, d2, d3, dq, d4, d5⟩ := dg_ps (i := 0) h0
      have fD5 := frD_t fD4 (frD_C d2)
      have fY5 := frY_t fY4 d3
      have hq : p < q := by omega
      rcases d5 with ⟨da, db⟩ | ⟨v, hv, da, db, dv⟩
      · -- no number
        have ec : prG (sp_X6_parsedDigits (pM (pM m 6 4 c) 6 7 (nI (p + 1)))) = (0, pM m1 6 5 (-1)) := by
          unfold prG
          rw [da]
          rfl
        have er : sp_X8_readsForm (pM y 7 2 (nI (p + 1))) c = (0, y1) := by
          rcases cl with e | e | e | e
          · unfold sp_X8_readsForm
            rw [e, if_neg (by decide), if_neg (by decide), if_pos rfl, db]
            rfl
          · unfold sp_X8_readsForm
            rw [e, if_neg (by decide), if_pos rfl, db]
            rfl
          · rw [rdN_eq (Or.inl e)]
            unfold rfN
            rw [db]
            rfl
          · rw [rdN_eq (Or.inr e)]
            unfold rfN
            rw [db]
            rfl
        rw [ec, er]
        exact ⟨frD_t fD5 (frD_p (by omega)), fY5, Or.inl ⟨rfl, rfl⟩⟩
      · have hv' : v < 2 ^ 31 := by omega
        have m4 : m1.1 6 4 = c := (d2.2.2 4 (by omega)).trans e4
        have fD6 : FrD m (pM m1 6 5 (nI v)) := frD_t fD5 (frD_p (by omega))
        have h6 : PS L q (pM m1 6 5 (nI v)) y1 := ps_d d1 d1.1 (frD_p (by omega)) ⟨rfl, fun _ _ _ => rfl, fun _ _ => rfl⟩ (by rw [row_k _ (by omega)]; exact d1.2.2.2.2.2.1) d1.2.2.2.2.2.2
        have k4 : (pM m1 6 5 (nI v)).1 6 4 = c := by rw [row_k _ (by omega)]; exact m4
        have k5 : (pM m1 6 5 (nI v)).1 6 5 = nI v := row_at _
        by_cases cr : c = 114
        · have ec : prG (sp_X6_parsedDigits (pM (pM m 6 4 c) 6 7 (nI (p + 1)))) = sp_X6_takes (pM m1 6 5 (nI v)) 59 := by
            unfold prG
            rw [da]
            dsimp only
            rw [if_pos (nI_pos' hv'), m4, if_pos cr]
          have er : sp_X8_readsForm (pM y 7 2 (nI (p + 1))) c = (if (sp_X8_passes y1 59).1 = 0 then (0, (sp_X8_passes y1 59).2) else (1, (sp_X8_passes y1 59).2)) := by
            unfold sp_X8_readsForm
            rw [cr, if_neg (by decide), if_pos rfl, db]
            dsimp only
            rw [if_neg (by decide)]
          rw [ec, er]
          rcases fm_end (p := p) (c := c) hq h6 fD6 fY5 k4 (fun _ => ⟨v, hv, k5, dv⟩) (fun _ q => absurd cr q) with ⟨a, y', b, r⟩ | ⟨m', y', a, b, r⟩
          · rw [a, b]; exact r
          · rw [a, b]; exact r
        · -- a second number
          have ec : prG (sp_X6_parsedDigits (pM (pM m 6 4 c) 6 7 (nI (p + 1)))) = (if ((sp_X6_parsesNumber (pM m1 6 5 (nI v))).1 : Int32) = 0 then (0, (sp_X6_parsesNumber (pM m1 6 5 (nI v))).2) else (if ((sp_X6_takes (sp_X6_parsesNumber (pM m1 6 5 (nI v))).2 (59 : Int32)).1 : Int32) = 0 then (0, (sp_X6_takes (sp_X6_parsesNumber (pM m1 6 5 (nI v))).2 (59 : Int32)).2) else (1, (sp_X6_takes (sp_X6_parsesNumber (pM m1 6 5 (nI v))).2 (59 : Int32)).2))) := by
            unfold prG
            rw [da]
            dsimp only
            rw [if_pos (nI_pos' hv'), m4, if_neg cr]
          rw [ec]
          generalize hm6 : pM m1 6 5 (nI v) = m6 at *
          -- the digits behind, and the end: common to both signs and all letters
          have tail : ∀ (q2 : Nat) (m7 y7 : Mu), p < q2 → PS L q2 m7 y7 → FrD m m7 → FrY y y7 → m7.1 6 4 = c → m7.1 6 5 = nI v → y7.1 13 0 = nI v → ∃ m8 y8, (sp_X6_parsedDigits m7 = (-1, m8) ∧ sp_X8_takes y7 1 = (0, y8) ∧ (∀ x : Int32, FrD m (pM m8 6 6 x)) ∧ (∀ x : Int32, FrY y (pM y8 13 1 x))) ∨ ∃ w, w < 1000000 ∧ sp_X6_parsedDigits m7 = (nI w, m8) ∧ sp_X8_takes y7 1 = (1, y8) ∧ y8.1 13 1 = nI w ∧ ∀ x : Int32, ((sp_X6_takes (pM m8 6 6 x) 59 = (0, pM m8 6 6 x) ∧ ∃ y', sp_X8_passes (pM y8 13 1 x) 59 = (0, y') ∧ FRes L p c m y (0, pM m8 6 6 x) (0, y')) ∨ ∃ m' y', sp_X6_takes (pM m8 6 6 x) 59 = (1, m') ∧ sp_X8_passes (pM y8 13 1 x) 59 = (1, y') ∧ FRes L p c m y (1, m') (1, y')) := by
            intro q2 m7 y7 hq2 g0 g1 g2 g4 g5 g13
            obtain ⟨q3, m8, y8, i1, i2, i3, iq, i4, i5⟩ := dg_ps (i := 1) g0
            refine ⟨m8, y8, ?_⟩
            have gD := frD_t g1 (frD_C i2)
            have gY := frY_t g2 i3
            rcases i5 with ⟨ia, ib⟩ | ⟨w, hw, ia, ib, iv⟩
            · exact Or.inl ⟨ia, ib, fun x => frD_t gD (frD_p (by omega)), fun x => frY_t gY frY_13⟩
            · refine Or.inr ⟨w, hw, ia, ib, iv, fun x => ?_⟩
              have hq3 : p < q3 := by omega
              exact fm_end hq3 (ps_d i1 i1.1 (frD_p (by omega)) frY_13 (by rw [row_k _ (by omega)]; exact i1.2.2.2.2.2.1) (by rw [row_n _ (by omega)]; exact i1.2.2.2.2.2.2)) (frD_t gD (frD_p (by omega))) (frY_t gY frY_13) (by rw [row_k _ (by omega), i2.2.2 4 (by omega)]; exact g4) (fun _ => ⟨v, hv, by rw [row_k _ (by omega), i2.2.2 5 (by omega)]; exact g5, by rw [row_k _ (by omega), i4 0 (by omega)]; exact g13⟩) (fun _ _ => by rw [row_at, row_at])
          have nc : ∀ z : Mu, sp_X6_parsesNumber z = (if ((sp_X6_takes z (44 : Int32)).1 : Int32) = 0 then (0, (sp_X6_takes z (44 : Int32)).2) else (if (((sp_X6_takes z (44 : Int32)).2).1 6 4 : Int32) = 116 then (if ((sp_X6_takes ((sp_X6_takes z (44 : Int32)).2) (45 : Int32)).1 : Int32) = 0 then (if ((sp_X6_parsedDigits ((sp_X6_takes ((sp_X6_takes z (44 : Int32)).2) (45 : Int32)).2)).1 : Int32) < 0 then (0, pM ((sp_X6_parsedDigits ((sp_X6_takes ((sp_X6_takes z (44 : Int32)).2) (45 : Int32)).2)).2) 6 6 ((sp_X6_parsedDigits ((sp_X6_takes ((sp_X6_takes z (44 : Int32)).2) (45 : Int32)).2)).1)) else (1, pM ((sp_X6_parsedDigits ((sp_X6_takes ((sp_X6_takes z (44 : Int32)).2) (45 : Int32)).2)).2) 6 6 ((sp_X6_parsedDigits ((sp_X6_takes ((sp_X6_takes z (44 : Int32)).2) (45 : Int32)).2)).1))) else (if ((sp_X6_parsedDigits ((sp_X6_takes ((sp_X6_takes z (44 : Int32)).2) (45 : Int32)).2)).1 : Int32) < 0 then (0, pM ((sp_X6_parsedDigits ((sp_X6_takes ((sp_X6_takes z (44 : Int32)).2) (45 : Int32)).2)).2) 6 6 (-((sp_X6_parsedDigits ((sp_X6_takes ((sp_X6_takes z (44 : Int32)).2) (45 : Int32)).2)).1))) else (1, pM ((sp_X6_parsedDigits ((sp_X6_takes ((sp_X6_takes z (44 : Int32)).2) (45 : Int32)).2)).2) 6 6 (-((sp_X6_parsedDigits ((sp_X6_takes ((sp_X6_takes z (44 : Int32)).2) (45 : Int32)).2)).1))))) else (if ((sp_X6_parsedDigits ((sp_X6_takes z (44 : Int32)).2)).1 : Int32) < 0 then (0, pM ((sp_X6_parsedDigits ((sp_X6_takes z (44 : Int32)).2)).2) 6 6 ((sp_X6_parsedDigits ((sp_X6_takes z (44 : Int32)).2)).1)) else (1, pM ((sp_X6_parsedDigits ((sp_X6_takes z (44 : Int32)).2)).2) 6 6 ((sp_X6_parsedDigits ((sp_X6_takes z (44 : Int32)).2)).1))))) := fun z => rfl
          have neg1 : (-1 : Int32) < 0 := by decide
          rcases tk_ps h6 (show ¬ (44 : Int32) = 0 by decide) with ⟨a, y2, b, z0, z1, z13⟩ | ⟨m2, y2, a, b, z0, zc, z1, z13⟩
          · -- no comma
            have en : sp_X6_parsesNumber m6 = (0, m6) := by rw [nc, a]; rfl
            rw [en]
            have er : sp_X8_readsForm (pM y 7 2 (nI (p + 1))) c = (0, pM y2 13 1 (y2.1 13 1)) := by
              rcases cl with e | e | e | e
              · unfold sp_X8_readsForm
                rw [e, if_neg (by decide), if_neg (by decide), if_pos rfl, db]
                dsimp only
                rw [if_neg (by decide), b]
                rfl
              · exact absurd e cr
              · rw [rdN_eq (Or.inl e)]
                unfold rfN
                rw [db]
                dsimp only
                rw [if_neg (by decide), b]
                rfl
              · rw [rdN_eq (Or.inr e)]
                unfold rfN
                rw [db]
                dsimp only
                rw [if_neg (by decide), b]
                rfl
            rw [er]
            exact ⟨fD6, frY_t (frY_t fY5 z1) frY_13, Or.inl ⟨rfl, rfl⟩⟩
          · have gD2 := frD_t fD6 (frD_C zc)
            have gY2 := frY_t fY5 z1
            have g4 : m2.1 6 4 = c := (zc.2.2 4 (by omega)).trans k4
            have g5 : m2.1 6 5 = nI v := (zc.2.2 5 (by omega)).trans k5
            have g13 : y2.1 13 0 = nI v := (congrFun z13 0).trans dv
            by_cases ct : c = 116
            · have erT : sp_X8_readsForm (pM y 7 2 (nI (p + 1))) c = (if ((sp_X8_passes y2 (45 : Int32)).1 : Int32) = 0 then (if ((sp_X8_takes ((sp_X8_passes y2 (45 : Int32)).2) 1).1 : Int32) = 0 then (0, pM ((sp_X8_takes ((sp_X8_passes y2 (45 : Int32)).2) 1).2) 13 1 (((sp_X8_takes ((sp_X8_passes y2 (45 : Int32)).2) 1).2).1 13 1)) else (if ((sp_X8_passes (pM ((sp_X8_takes ((sp_X8_passes y2 (45 : Int32)).2) 1).2) 13 1 (((sp_X8_takes ((sp_X8_passes y2 (45 : Int32)).2) 1).2).1 13 1)) (59 : Int32)).1 : Int32) = 0 then (0, (sp_X8_passes (pM ((sp_X8_takes ((sp_X8_passes y2 (45 : Int32)).2) 1).2) 13 1 (((sp_X8_takes ((sp_X8_passes y2 (45 : Int32)).2) 1).2).1 13 1)) (59 : Int32)).2) else (1, (sp_X8_passes (pM ((sp_X8_takes ((sp_X8_passes y2 (45 : Int32)).2) 1).2) 13 1 (((sp_X8_takes ((sp_X8_passes y2 (45 : Int32)).2) 1).2).1 13 1)) (59 : Int32)).2))) else (if ((sp_X8_takes ((sp_X8_passes y2 (45 : Int32)).2) 1).1 : Int32) = 0 then (0, pM ((sp_X8_takes ((sp_X8_passes y2 (45 : Int32)).2) 1).2) 13 1 (-(((sp_X8_takes ((sp_X8_passes y2 (45 : Int32)).2) 1).2).1 13 1))) else (if ((sp_X8_passes (pM ((sp_X8_takes ((sp_X8_passes y2 (45 : Int32)).2) 1).2) 13 1 (-(((sp_X8_takes ((sp_X8_passes y2 (45 : Int32)).2) 1).2).1 13 1))) (59 : Int32)).1 : Int32) = 0 then (0, (sp_X8_passes (pM ((sp_X8_takes ((sp_X8_passes y2 (45 : Int32)).2) 1).2) 13 1 (-(((sp_X8_takes ((sp_X8_passes y2 (45 : Int32)).2) 1).2).1 13 1))) (59 : Int32)).2) else (1, (sp_X8_passes (pM ((sp_X8_takes ((sp_X8_passes y2 (45 : Int32)).2) 1).2) 13 1 (-(((sp_X8_takes ((sp_X8_passes y2 (45 : Int32)).2) 1).2).1 13 1))) (59 : Int32)).2)))) := by
                unfold sp_X8_readsForm
                rw [ct, if_neg (by decide), if_neg (by decide), if_pos rfl, db]
                dsimp only
                rw [if_neg (by decide), b]
                dsimp only
                rw [if_neg (by decide)]
              rw [erT, nc, a]
              dsimp only
              rw [if_neg (show ¬ (1 : Int32) = 0 by decide), g4, if_pos ct]
              rcases tk_ps z0 (show ¬ (45 : Int32) = 0 by decide) with ⟨a2, y3, b2, w0, w1, w13⟩ | ⟨m3, y3, a2, b2, w0, wc, w1, w13⟩
              · rw [a2, b2]
                dsimp only
                rw [if_pos rfl, if_pos rfl]
                obtain ⟨m8, y8, t⟩ := tail (q + 1) m2 y3 (by omega) w0 gD2 (frY_t gY2 w1) g4 g5 ((congrFun w13 0).trans g13)
                rcases t with ⟨ta, tb, t1, t2⟩ | ⟨w, hw, ta, tb, tv, t⟩
                · rw [ta, tb]
                  dsimp only
                  rw [if_pos neg1, if_pos rfl]
                  dsimp only
                  rw [if_pos rfl]
                  exact ⟨t1 _, t2 _, Or.inl ⟨rfl, rfl⟩⟩
                · rw [ta, tb]
                  dsimp only
                  rw [if_neg (nI_pos (by omega)), if_neg (show ¬ (1 : Int32) = 0 by decide)]
                  dsimp only
                  rw [if_neg (show ¬ (1 : Int32) = 0 by decide), tv]
                  rcases t (nI w) with ⟨s1, y', s2, r⟩ | ⟨m', y', s1, s2, r⟩
                  · rw [s1, s2]; exact r
                  · rw [s1, s2]; exact r
              · rw [a2, b2]
                dsimp only
                rw [if_neg (show ¬ (1 : Int32) = 0 by decide), if_neg (show ¬ (1 : Int32) = 0 by decide)]
                obtain ⟨m8, y8, t⟩ := tail (q + 1 + 1) m3 y3 (by omega) w0 (frD_t gD2 (frD_C wc)) (frY_t gY2 w1) ((wc.2.2 4 (by omega)).trans g4) ((wc.2.2 5 (by omega)).trans g5) ((congrFun w13 0).trans g13)
                rcases t with ⟨ta, tb, t1, t2⟩ | ⟨w, hw, ta, tb, tv, t⟩
                · rw [ta, tb]
                  dsimp only
                  rw [if_pos neg1, if_pos rfl]
                  dsimp only
                  rw [if_pos rfl]
                  exact ⟨t1 _, t2 _, Or.inl ⟨rfl, rfl⟩⟩
                · rw [ta, tb]
                  dsimp only
                  rw [if_neg (nI_pos (by omega)), if_neg (show ¬ (1 : Int32) = 0 by decide)]
                  dsimp only
                  rw [if_neg (show ¬ (1 : Int32) = 0 by decide), tv]
                  rcases t (-nI w) with ⟨s1, y', s2, r⟩ | ⟨m', y', s1, s2, r⟩
                  · rw [s1, s2]; exact r
                  · rw [s1, s2]; exact r
            · have cN : c = 98 ∨ c = 109 := by
                rcases cl with e | e | e | e
                · exact absurd e ct
                · exact absurd e cr
                · exact Or.inl e
                · exact Or.inr e
              have erN : sp_X8_readsForm (pM y 7 2 (nI (p + 1))) c = (if ((sp_X8_takes y2 1).1 : Int32) = 0 then (0, pM ((sp_X8_takes y2 1).2) 13 1 (((sp_X8_takes y2 1).2).1 13 1)) else (if ((sp_X8_passes (pM ((sp_X8_takes y2 1).2) 13 1 (((sp_X8_takes y2 1).2).1 13 1)) (59 : Int32)).1 : Int32) = 0 then (0, (sp_X8_passes (pM ((sp_X8_takes y2 1).2) 13 1 (((sp_X8_takes y2 1).2).1 13 1)) (59 : Int32)).2) else (1, (sp_X8_passes (pM ((sp_X8_takes y2 1).2) 13 1 (((sp_X8_takes y2 1).2).1 13 1)) (59 : Int32)).2))) := by
                rw [rdN_eq cN]
                unfold rfN
                rw [db]
                dsimp only
                rw [if_neg (by decide), b]
                dsimp only
                rw [if_neg (by decide)]
              rw [erN, nc, a]
              dsimp only
              rw [if_neg (show ¬ (1 : Int32) = 0 by decide), g4, if_neg ct]
              obtain ⟨m8, y8, t⟩ := tail (q + 1) m2 y2 (by omega) z0 gD2 gY2 g4 g5 g13
              rcases t with ⟨ta, tb, t1, t2⟩ | ⟨w, hw, ta, tb, tv, t⟩
              · rw [ta, tb]
                dsimp only
                rw [if_pos neg1, if_pos rfl]
                dsimp only
                rw [if_pos rfl]
                exact ⟨t1 _, t2 _, Or.inl ⟨rfl, rfl⟩⟩
              · rw [ta, tb]
                dsimp only
                rw [if_neg (nI_pos (by omega)), if_neg (show ¬ (1 : Int32) = 0 by decide)]
                dsimp only
                rw [if_neg (show ¬ (1 : Int32) = 0 by decide), tv]
                rcases t (nI w) with ⟨s1, y', s2, r⟩ | ⟨m', y', s1, s2, r⟩
                · rw [s1, s2]; exact r
                · rw [s1, s2]; exact r
    · have co : ¬ (c = 115 ∨ c = 116 ∨ c = 114 ∨ c = 98 ∨ c = 109) := fun q => q.elim cs cl
      rw [par_o hc co, nI_1]
      have er : sp_X8_readsForm (pM y 7 2 (nI (p + 1))) c = (0, pM y 7 2 (nI (p + 1))) := by
        unfold sp_X8_readsForm
        rw [if_neg cs, if_neg (fun q => co (Or.inr (Or.inr (Or.inl q)))), if_neg (fun q => co (Or.inr (Or.inl q))), if_neg (fun q => co (Or.inr (Or.inr (Or.inr (Or.inl q))))), if_neg (fun q => co (Or.inr (Or.inr (Or.inr (Or.inr q)))))]
      rw [er]
      exact ⟨fD4, fY4, Or.inl ⟨rfl, rfl⟩⟩
