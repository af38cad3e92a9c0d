/-! ===== sensor ===== -/
def tmp0 (s : Nat → Int32) (t : Nat) : Int32 := if s (11 + 25 * t + 0) ≤ 0 then (if 0 ≤ rL s t then 0 else rL s t) else s (11 + 25 * t + 0)
theorem near_1 {B t : Nat} {g s : Nat → Int32} (h : SimS B g s) (ht : t < 3) (h2 : 2 ≤ rN s t) : sp_X5_nearest g t 0 = tmp0 s t ∧ (s (11 + 25 * t + 0)).toInt ≤ (tmp0 s t).toInt ∧ (tmp0 s t).toInt ≤ (rL s t).toInt := by
  have hI := simS_RI h
  have h13 : rN s t < 13 := (hI.2.2.1 t ht).2
  have hNe : s (10 + 25 * t) = nI (rN s t) := (hI.2.2.1 t ht).1
  have fl := rt_fl ((simS_R h).1.2.1 t ht).1 h2
  have e0 : sp_X5_temperatureOf g t (0 : Int32) = s (11 + 25 * t + 0) := by
    rw [tmpOf (by decide) (by decide), show (0 : Int32).toNatClampNeg = 0 by decide, sT_D h.1 ht (by omega)]
  have e1 : sp_X5_temperatureOf g t (g (tN t) - 1) = rL s t := by
    rw [show g (tN t) = nI (rN s t) from (sT_N h.1 ht).trans hNe, show nI (rN s t) - 1 = nI (rN s t - 1) from pk_sub (b := 1) (by omega), tmpOf (nI_pos (by omega)) (by rw [show (12 : Int32) = nI 12 from rfl, nI_leI (by omega) (by omega)]; omega), nI_clamp (by omega), sT_D h.1 ht (by omega)]
    rfl
  unfold sp_X5_nearest tmp0
  rw [e0, e1]
  generalize s (11 + 25 * t + 0) = F at *
  generalize rL s t = L at *
  unfold mnI mxI
  have z : (0 : Int32).toInt = 0 := by decide
  by_cases a : F ≤ 0
  · have a' := Int32.le_iff_toInt_le.mp a
    rw [if_neg (show ¬ (0 : Int32) < F by rw [Int32.lt_iff_toInt_lt]; omega), if_pos a]
    by_cases b : 0 ≤ L
    · have b' := Int32.le_iff_toInt_le.mp b
      rw [if_neg (show ¬ L < 0 by rw [Int32.lt_iff_toInt_lt]; omega), if_pos b]
      exact ⟨rfl, a', b'⟩
    · have b' : L.toInt < 0 := by
        rw [Int32.le_iff_toInt_le] at b; omega
      rw [if_pos (show L < 0 by rw [Int32.lt_iff_toInt_lt]; omega), if_neg b]
      exact ⟨rfl, by omega, by omega⟩
  · rw [if_pos (show (0 : Int32) < F by rw [Int32.lt_iff_toInt_lt]; rw [Int32.le_iff_toInt_le] at a; omega), if_neg a, if_neg (show ¬ L < F by rw [Int32.lt_iff_toInt_lt]; omega)]
    exact ⟨rfl, by omega, by omega⟩
theorem st_sensor {B : Nat} {μ : Mu} (h : Inv B μ) (a b w : Int32) : Stq B (sp_X7_sensor μ a b w) (fun m => sp_X8_sensor m a b w) := by
  have hS := h.1
  have hI := simS_RI hS
  unfold sp_X7_sensor
  rw [tabI hS]
  by_cases c : 0 ≤ a ∧ a ≤ μ.1 8 0 - 1
  · rw [if_pos c]
    obtain ⟨ea, htc⟩ := ni_of hI.1 (by decide) c
    have h4 := hI.1.2
    generalize hta : a.toNatClampNeg = t at *
    have ht : t < 3 := by omega
    show Stq B (if (2 : Int64) ≤ b.toInt64 ∧ b.toInt64 ≤ (4 : Int64) then _ else _) _
    have i24 : (2 : Int64) ≤ b.toInt64 ∧ b.toInt64 ≤ 4 ↔ (2 : Int32) ≤ b ∧ b ≤ 4 := i2g (by decide) (by decide)
    have ibs : (1000 : Int64) ≤ w.toInt64 ∧ w.toInt64 ≤ 2000000 ↔ (1000 : Int32) ≤ w ∧ w ≤ 2000000 := i2g (by decide) (by decide)
    by_cases c1 : (2 : Int32) ≤ b ∧ b ≤ 4
    · rw [if_pos (i24.mpr c1)]
      by_cases c2 : (1000 : Int32) ≤ w ∧ w ≤ 2000000
      · rw [if_pos (ibs.mpr c2)]
        obtain ⟨N, hN, eN⟩ : ∃ N, N < 13 ∧ μ.1 8 (10 + 25 * t) = nI N := ⟨_, (hI.2.2.1 t ht).2, (hI.2.2.1 t ht).1⟩
        rw [show μ.1 0 (tN t) = nI N from (sT_N hS.1 ht).trans eN]
        by_cases c3 : (2 : Int32) ≤ nI N
        · rw [if_pos c3]
          obtain ⟨k, hk, ek⟩ : ∃ k, k < 7 ∧ μ.1 8 1 = nI k := ⟨_, hI.2.1.2, hI.2.1.1⟩
          rw [rec_0 h, hS.1.2.1, ek]
          by_cases c4 : k < 6
          · rw [if_pos (by rw [show (6 : Int32) = nI 6 from rfl, nI_ltI (by omega) (by omega)]; exact c4), nI_1, nI_pred, row_s, rec_0 h]
            have es : sp_X4_sensorAt (ur (μ.1 0) 1 (nI (k + 1))) (nI k) = some k := by
              unfold sp_X4_sensorAt
              rw [if_neg (nI_pos (by omega)), ur_s, if_neg (by rw [nI_leI (by omega) (by omega)]; omega), if_neg (by rw [show (6 : Int32) = nI 6 from rfl, nI_leI (by omega) (by omega)]; omega), nI_clamp (by omega)]
            rw [es]
            have er : rN (μ.1 8) t = N := by unfold rN; rw [eN, nI_clamp (by omega)]
            have h2N : 2 ≤ rN (μ.1 8) t := by
              rw [show (2 : Int32) = nI 2 from rfl, nI_leI (by omega) (by omega)] at c3
              omega
            obtain ⟨nr, nr1, nr2⟩ := near_1 hS ht h2N
            have nr' : sp_X5_nearest (ur (μ.1 0) 1 (nI (k + 1))) t 0 = tmp0 (μ.1 8) t := by
              rw [← nr]
              unfold sp_X5_nearest sp_X5_temperatureOf tN tD
              rw [ur_n (show 10 + 25 * t ≠ 1 by omega)]
              simp only [ur_n (show ∀ {z}, 11 + 25 * t + z ≠ 1 by omega)]
            show Stq B ((sp_X3_begin (pM (sp_X0_record μ) 0 1 (nI (k + 1))) 0 k a b w (sp_X5_nearest (ur (μ.1 0) 1 (nI (k + 1))) t 0)).1 0 1 - 1, sp_X3_begin (pM (sp_X0_record μ) 0 1 (nI (k + 1))) 0 k a b w (sp_X5_nearest (ur (μ.1 0) 1 (nI (k + 1))) t 0)) _
            rw [nr']
            generalize hT : tmp0 (μ.1 8) t = T at *
            generalize hx : sp_X3_begin (pM (sp_X0_record μ) 0 1 (nI (k + 1))) 0 k a b w T = x
            have xr : ∀ c, c ≠ 0 → x.1 c = (sp_X0_record μ).1 c := fun c hc => by
              rw [← hx]
              unfold sp_X3_begin sp_X3_watch
              iterate 10 rw [row_n _ hc]
            have x0 : x.1 0 = ur (ur (ur (ur (ur (ur (ur (ur (ur (ur (μ.1 0) 1 (nI (k + 1))) (sF k 0) a) (sF k 1) b) (sF k 2) w) (sF k 3) w) (sF k 4) T) (sF k 7) (-200000)) (sF k 8) 850000) (sF k 9) 0) (sF k 10) 0 := by
              rw [← hx]
              unfold sp_X3_begin sp_X3_watch
              iterate 10 rw [row_s]
              rw [rec_0 h]
            have xK : x.2.2 = (sp_X0_record μ).2.2 := by rw [← hx]; rfl
            have x8 : x.1 8 = μ.1 8 := (xr 8 (by omega)).trans (rec_7 h (by omega))
            have hxc : (x.1 8 1).toNatClampNeg = k := by rw [x8, ek, nI_clamp (by omega)]
            have x01 : x.1 0 1 = nI (k + 1) := by
              rw [x0]
              unfold sF
              iterate 9 rw [ur_n (by omega)]
              exact ur_s
            rw [x01, nI_pred]
            obtain ⟨m2, q1, q2, q3, q4⟩ := sn_lp (x := x) (a := a) (b := b) (d := w) hxc 30 0 (pM (pC x 11 0 8 0 259) 8 1 (nI (k + 1))) rfl (by omega)
            have m2lo : ∀ y, y ≠ 1 → (y < 85 + 29 * k ∨ 85 + 29 * k + 29 ≤ y) → m2.1 8 y = μ.1 8 y := by
              intro y h1 h2
              rw [q4, if_neg (by omega), row_k _ h1, pC_row (by omega), x8]
            generalize hQ : pM (pM (pM (pM m2 8 (85 + 29 * k + 0) (nI t)) 8 (85 + 29 * k + 1) b) 8 (85 + 29 * k + 2) w) 8 (85 + 29 * k + 3) w = Q
            have Qo : ∀ y, y ≠ 1 → (y < 85 + 29 * k ∨ 85 + 29 * k + 29 ≤ y) → Q.1 8 y = μ.1 8 y := by
              intro y h1 h2
              rw [← hQ, row_k _ (by omega), row_k _ (by omega), row_k _ (by omega), row_k _ (by omega), m2lo y h1 h2]
            have QF : Q.1 8 (11 + 25 * t + 0) = μ.1 8 (11 + 25 * t + 0) := Qo _ (by omega) (by omega)
            have QL : rL (Q.1 8) t = rL (μ.1 8) t := by
              have q13 : rN (μ.1 8) t < 13 := (hI.2.2.1 t ht).2
              have eN' : rN (Q.1 8) t = rN (μ.1 8) t := by
                unfold rN
                rw [Qo _ (by omega) (by omega)]
              unfold rL
              rw [eN', Qo _ (by omega) (by omega)]
            refine stp_ch (m := pM (pM (pM (pM Q 8 (85 + 29 * k + 4) T) 8 (85 + 29 * k + 13) (-1)) 8 (85 + 29 * k + 14) (-200000)) 8 (85 + 29 * k + 15) 850000) (w := nI k) h (Nat.le_refl _) ⟨xK, xr⟩ ?_ rfl ⟨?_, fun c h1 h2 => ?_, fun y hy => ?_⟩ (nle_bd (by rw [nI_toInt (by omega)]; omega)) ?_
            · show sp_X8_sensor _ a b w = _
              unfold sp_X8_sensor
              rw [hxc, x8, if_pos (by rw [show μ.1 8 0 - 1 = μ.1 8 0 - 1 from rfl]; exact c), if_pos c1, if_pos c2, hta, eN, nI_clamp (by omega), if_pos c3, if_neg (fun q => by have := nI_ij (b := 6) (by omega) (by omega) q; omega), q1]
              unfold lp_X8_sensor_83
              rw [hxc, hta, hQ, QF, QL, if_pos (by decide)]
              by_cases z1 : μ.1 8 (11 + 25 * t + 0) ≤ 0
              · rw [if_pos z1]
                by_cases z2 : 0 ≤ rL (μ.1 8) t
                · have eT : T = 0 := by rw [← hT]; unfold tmp0; rw [if_pos z1, if_pos z2]
                  rw [if_pos z2, eT]
                · have eT : T = rL (μ.1 8) t := by rw [← hT]; unfold tmp0; rw [if_pos z1, if_neg z2]
                  rw [if_neg z2, eT]
              · have eT : T = μ.1 8 (11 + 25 * t + 0) := by rw [← hT]; unfold tmp0; rw [if_neg z1]
                rw [if_neg z1, eT]
            · show Q.2.2 = _
              rw [← hQ]
              show m2.2.2 = _
              rw [q2]
              rfl
            · rw [row_n _ h1, row_n _ h1, row_n _ h1, row_n _ h1, ← hQ, row_n _ h1, row_n _ h1, row_n _ h1, row_n _ h1, q3 _ h1, row_n _ h1, pC_row h2]
            · rw [row_n _ (by omega), row_n _ (by omega), row_n _ (by omega), row_n _ (by omega), ← hQ, row_n _ (by omega), row_n _ (by omega), row_n _ (by omega), row_n _ (by omega), q3 _ (by omega), row_n _ (by omega), kp_11 _ hy]
            · rw [x0, row_s, row_s, row_s, row_s, ← hQ, row_s, row_s, row_s, row_s]
              unfold sF
              have mk : ∀ f, f < 29 → m2.1 8 (85 + 29 * k + f) = 0 := fun f hf => by rw [q4, if_pos (by omega)]
              have m1 : m2.1 8 1 = nI (k + 1) := by rw [q4, if_neg (by omega), row_at]
              have nz := hS.2.2.2.2.1 k c4 (by show (μ.1 8 1).toNatClampNeg ≤ k; rw [ek, nI_clamp (by omega)]; omega)
              refine simS_new (c := k) (t := t) (b := b) (d := w) (T := T) hS c4 ek ht c1 c2 h2N nr1 nr2 ?_ ?_ (fun y h1 h2 => ?_) (fun y h1 h2 => ?_) ⟨?_, ?_, ?_, ?_, ?_, ?_, ?_⟩ (fun f hf k0 k1 k2 k3 k4 k6 k7 k8 => ?_) ?_ ⟨?_, ?_, ?_, ?_, ?_, ?_, ?_⟩ (fun f hf k0 k1 k2 k3 k4 k13 k14 k15 => ?_) ?_
              · iterate 9 rw [ur_n (by omega)]
                exact ur_s
              · iterate 8 rw [ur_n (by omega)]
                exact m1
              · iterate 10 rw [ur_n (by omega)]
              · iterate 8 rw [ur_n (by omega)]
                exact m2lo y h1 h2
              · iterate 8 rw [ur_n (by omega)]
                rw [ur_s, ea]
              · iterate 7 rw [ur_n (by omega)]
                exact ur_s
              · iterate 6 rw [ur_n (by omega)]
                exact ur_s
              · iterate 5 rw [ur_n (by omega)]
                exact ur_s
              · iterate 4 rw [ur_n (by omega)]
                exact ur_s
              · iterate 3 rw [ur_n (by omega)]
                exact ur_s
              · iterate 2 rw [ur_n (by omega)]
                exact ur_s
              · by_cases z9 : f = 9
                · subst z9
                  rw [ur_n (by omega), ur_s]
                · by_cases z10 : f = 10
                  · subst z10; rw [ur_s]
                  · iterate 10 rw [ur_n (by omega)]
                    exact nz.1 f hf k6
              · iterate 10 rw [ur_n (by omega)]
                exact nz.2
              · iterate 7 rw [ur_n (by omega)]
                exact ur_s
              · iterate 6 rw [ur_n (by omega)]
                exact ur_s
              · iterate 5 rw [ur_n (by omega)]
                exact ur_s
              · iterate 4 rw [ur_n (by omega)]
                exact ur_s
              · iterate 3 rw [ur_n (by omega)]
                exact ur_s
              · iterate 1 rw [ur_n (by omega)]
                exact ur_s
              · exact ur_s
              · iterate 8 rw [ur_n (by omega)]
                exact mk f hf
              · iterate 2 rw [ur_n (by omega)]
                exact ur_s
          · rw [if_neg (by rw [show (6 : Int32) = nI 6 from rfl, nI_ltI (by omega) (by omega)]; exact c4)]
            refine stp_no h (Nat.le_refl _) ?_
            show sp_X8_sensor _ a b w = _
            unfold sp_X8_sensor
            rw [if_pos c, if_pos c1, if_pos c2, hta, eN, nI_clamp (by omega), if_pos c3, ek, nI_clamp (by omega), if_pos (by rw [show k = 6 by omega]; rfl)]
        · rw [if_neg c3]
          refine stp_no h (Nat.le_refl _) ?_
          show sp_X8_sensor _ a b w = _
          unfold sp_X8_sensor
          rw [if_pos c, if_pos c1, if_pos c2, hta, eN, nI_clamp (by omega), if_neg c3]
      · rw [if_neg (fun q => c2 (ibs.mp q))]
        refine stp_no h (Nat.le_refl _) ?_
        show sp_X8_sensor _ a b w = _
        unfold sp_X8_sensor
        rw [if_pos c, if_pos c1, if_neg c2]
    · rw [if_neg (fun q => c1 (i24.mp q))]
      refine stp_no h (Nat.le_refl _) ?_
      show sp_X8_sensor _ a b w = _
      unfold sp_X8_sensor
      rw [if_pos c, if_neg c1]
  · rw [if_neg c]
    refine stp_no h (Nat.le_refl _) ?_
    show sp_X8_sensor _ a b w = _
    unfold sp_X8_sensor
    rw [if_neg c]
