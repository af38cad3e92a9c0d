/-! ===== changes of one field ===== -/
theorem rgs_w {s : Nat → Int32} {n w : Nat} {v : Int32} (hw : w < 29) (h' : w ≠ 0 ∧ w ≠ 1 ∧ w ≠ 2 ∧ w ≠ 3 ∧ w ≠ 4 ∧ w ≠ 9 ∧ w ≠ 19) (h : RGS s) : RGS (ur s (85 + 29 * n + w) v) := rgs_up (rga_w (m := mk8 s) hw h' h)
theorem rgs_4 {s : Nat → Int32} {n : Nat} {b : Int32} (h1 : s (11 + 25 * (oN s n) + 0) ≤ b) (h2 : b ≤ rL s (oN s n)) (h : RGS s) : RGS (ur s (85 + 29 * n + 4) b) := rgs_up (rga_4 (m := mk8 s) h1 h2 h)
theorem rgs_3 {s : Nat → Int32} {n w : Nat} {v : Int32} (hw : w = 2 ∨ w = 3 ∨ w = 9) (hv : (w = 2 → 1000 ≤ v.toInt ∧ v.toInt ≤ 2000000) ∧ (w = 3 → 1000 ≤ v.toInt ∧ v.toInt ≤ 2000000) ∧ (w = 9 → 0 ≤ v.toInt ∧ v.toInt ≤ 5000)) (h : RGS s) : RGS (ur s (85 + 29 * n + w) v) := by
  have hI := h.1.1
  refine ⟨rg_frame h.1 (fun y hy _ => ur_n (by omega)) (fun n' hn' => ⟨by rw [ur_n (by omega)]; exact (hI.2.2.2 n' hn').1, by rw [ur_n (by omega)]; exact (hI.2.2.2 n' hn').2.1, by rw [ur_n (by omega)]; exact (hI.2.2.2 n' hn').2.2⟩), fun n' hn' => ?_⟩
  have e1 : ur s (85 + 29 * n + w) v 1 = s 1 := ur_n (by omega)
  rw [show cS (ur s (85 + 29 * n + w) v) = cS s by show (ur s (85 + 29 * n + w) v 1).toNatClampNeg = _; rw [e1]] at hn'
  obtain ⟨q1, q2, q3, q4, q5, q6⟩ := h.2 n' hn'
  have ot : oN s n' < 3 := (hI.2.2.2 n' q1).1.2
  have hr : rN s (oN s n') < 13 := (hI.2.2.1 _ ot).2
  have eo : oN (ur s (85 + 29 * n + w) v) n' = oN s n' := by unfold oN; rw [ur_n (by omega)]
  have eN : rN (ur s (85 + 29 * n + w) v) (oN s n') = rN s (oN s n') := by unfold rN; rw [ur_n (by omega)]
  have eL : rL (ur s (85 + 29 * n + w) v) (oN s n') = rL s (oN s n') := by unfold rL; rw [eN, ur_n (by omega)]
  unfold RS
  rw [eo, eN, eL, ur_n (show 11 + 25 * oN s n' + 0 ≠ 85 + 29 * n + w by omega), ur_n (show 85 + 29 * n' + 4 ≠ 85 + 29 * n + w by omega)]
  refine ⟨q1, q2, q3, ?_, ?_, ?_⟩
  · by_cases d : 85 + 29 * n' + 2 = 85 + 29 * n + w
    · rw [d, ur_s]; exact hv.1 (by omega)
    · rw [ur_n d]; exact q4
  · by_cases d : 85 + 29 * n' + 3 = 85 + 29 * n + w
    · rw [d, ur_s]; exact hv.2.1 (by omega)
    · rw [ur_n d]; exact q5
  · by_cases d : 85 + 29 * n' + 9 = 85 + 29 * n + w
    · rw [d, ur_s]; exact hv.2.2 (by omega)
    · rw [ur_n d]; exact q6
theorem rt_hi {s s' : Nat → Int32} {t : Nat} (e : ∀ y, 10 ≤ y → s' y = s y) (h : RT s t) : RT s' t := by
  have eN : rN s' t = rN s t := by unfold rN; rw [e _ (by omega)]
  unfold RT
  rw [eN]
  exact ⟨fun k hk => by rw [e _ (by omega), e _ (by omega)]; exact h.1 k hk, fun k hk => by rw [e _ (by omega)]; exact h.2 k hk⟩
theorem rq_hi {s s' : Nat → Int32} {t : Nat} (e : ∀ y, 10 ≤ y → s' y = s y) (h : RQ s t) : RQ s' t := by
  have eN : rN s' t = rN s t := by unfold rN; rw [e _ (by omega)]
  unfold RQ
  rw [eN]
  exact ⟨fun k hk => by rw [e _ (by omega), e _ (by omega)]; exact h.1 k hk, fun k hk => by rw [e _ (by omega)]; exact h.2 k hk⟩
theorem rs_hi {s s' : Nat → Int32} {n : Nat} (e : ∀ y, 10 ≤ y → s' y = s y) (h : RS s n) : RS s' n := by
  have eo : oN s' n = oN s n := by unfold oN; rw [e _ (by omega)]
  have eN : rN s' (oN s n) = rN s (oN s n) := by unfold rN; rw [e _ (by omega)]
  have eL : rL s' (oN s n) = rL s (oN s n) := by unfold rL; rw [eN, e _ (by omega)]
  unfold RS
  rw [eo, eN, eL, e _ (by omega), e (85 + 29 * n + 4) (by omega), e (85 + 29 * n + 2) (by omega), e (85 + 29 * n + 3) (by omega), e (85 + 29 * n + 9) (by omega)]
  exact h
theorem rgs_t {s : Nat → Int32} {k : Nat} {v : Int32} (hk : k < 7) (h : RGS s) (h0 : k = 0 → 10000 ≤ v.toInt ∧ v.toInt ≤ 1000000) (h1 : k = 1 ∨ k = 2 → 100 ≤ v.toInt ∧ v.toInt ≤ 5000) (h3 : k = 3 → 8 ≤ v.toInt ∧ v.toInt ≤ 24) : RGS (ur s (2 + k) v) := by
  have e : ∀ y, 10 ≤ y → ur s (2 + k) v y = s y := fun y hy => ur_n (by omega)
  obtain ⟨⟨hI, hT, q2, q3, q4, q5⟩, hS⟩ := h
  have e1 : ur s (2 + k) v 1 = s 1 := ur_n (by omega)
  refine ⟨⟨⟨by rw [ur_n (by omega)]; exact hI.1, by rw [ur_n (by omega)]; exact hI.2.1, fun t ht => by rw [e _ (by omega)]; exact hI.2.2.1 t ht, fun n hn => by rw [e _ (by omega), e _ (by omega), e _ (by omega)]; exact hI.2.2.2 n hn⟩, fun t ht => ⟨rt_hi e (hT t ht).1, rq_hi e (hT t ht).2⟩, ?_, ?_, ?_, ?_⟩, fun n hn => rs_hi e (hS n (by
    rw [show cS (ur s (2 + k) v) = cS s by show (ur s (2 + k) v 1).toNatClampNeg = _; rw [e1]] at hn
    exact hn))⟩
  · by_cases d : k = 0
    · subst d; rw [ur_s]; exact h0 rfl
    · rw [ur_n (by omega)]; exact q2
  · by_cases d : k = 1
    · subst d; rw [ur_s]; exact h1 (Or.inl rfl)
    · rw [ur_n (by omega)]; exact q3
  · by_cases d : k = 2
    · subst d; rw [ur_s]; exact h1 (Or.inr rfl)
    · rw [ur_n (by omega)]; exact q4
  · by_cases d : k = 3
    · subst d; rw [ur_s]; exact h3 rfl
    · rw [ur_n (by omega)]; exact q5
theorem simS_R {B : Nat} {g s : Nat → Int32} (h : SimS B g s) : RGS s := h.2.2.2.2.2.2.1
theorem simS_B {B : Nat} {g s : Nat → Int32} (h : SimS B g s) {n f : Nat} (hn : n < 6) (hf : f < 18) : ¬ s (85 + 29 * n + f) ≤ -2000000001 := (h.2.2.2.2.2.2.2.2.2.2 n hn).1 f hf
theorem simS_g {B n f p : Nat} {g s : Nat → Int32} {v : Int32} (h : SimS B g s) (hn : n < cS s) (hf : f < 19) (h6 : f ≠ 6) (h11 : f ≠ 11) (hp : ph f = p) (hv : ¬ v ≤ -2000000001) (h16 : f = 5 → ni 16 v) (h17 : f = 10 → ni 2 v) (hR : RGS (ur s (85 + 29 * n + p) v)) : SimS B (ur g (sF n f) v) (ur s (85 + 29 * n + p) v) := by
  subst hp
  exact simS_f h hn hf h6 h11 hv h16 h17 hR
theorem ph_hi {f : Nat} (h : 12 ≤ f) : ph f = f - 7 := by unfold ph; rw [if_neg (by omega), if_neg (by omega)]
theorem ph_lo {f : Nat} (h : f < 5) : ph f = f := if_pos h
theorem ph_mi {f : Nat} (h : 5 ≤ f) (h2 : f < 12) : ph f = f + 7 := by unfold ph; rw [if_neg (by omega), if_pos h2]
theorem ni_pr {N : Nat} {x b : Int32} (hx : ni N x) (hN : N < 1000) : 0 ≤ b ∧ b < x ↔ 0 ≤ b ∧ b ≤ x - 1 := by
  have h2 := hx.2
  rw [hx.1]
  generalize x.toNatClampNeg = k at *
  have e : (nI k - 1).toInt = (k : Int) - 1 := by
    rw [Int32.toInt_sub, nI_toInt (by omega), show (1 : Int32).toInt = 1 by decide, I_of _ (by omega)]
  rw [Int32.lt_iff_toInt_lt, Int32.le_iff_toInt_le (x := b), e, nI_toInt (by omega)]
  constructor
  · rintro ⟨a, b⟩; exact ⟨a, by omega⟩
  · rintro ⟨a, b⟩; exact ⟨a, by omega⟩
theorem ni_bl {N : Nat} {x b : Int32} (hx : ni N x) (hN : N < 1000) (c : 0 ≤ b ∧ b < x) : ∃ j, j < x.toNatClampNeg ∧ b = nI j := by
  obtain ⟨j, hj, rfl⟩ := nI_of (x := b) (fun q => by have := c.1; rw [Int32.le_iff_toInt_le] at this; rw [Int32.lt_iff_toInt_lt] at q; omega)
  refine ⟨j, ?_, rfl⟩
  have h2 := hx.2
  have := c.2
  rw [hx.1, Int32.lt_iff_toInt_lt, nI_toInt hj, nI_toInt (by omega)] at this
  omega
theorem lead_j {g : Nat → Int32} {n j : Nat} (hj : j < 4) : sp_X3_leadOf g n (nI j) = g (sF n (12 + j)) := by
  unfold sp_X3_leadOf
  rw [if_neg (nI_pos (by omega)), if_neg (by rw [show (4 : Int32) = nI 4 from rfl, nI_leI (by omega) (by omega)]; omega), nI_clamp (by omega)]
theorem setl_j {m : Mu} {n j : Nat} {v : Int32} (hj : j < 4) : sp_X3_setLead m 0 n (nI j) v = pM m 0 (sF n (12 + j)) v := by
  unfold sp_X3_setLead
  rw [if_neg (nI_pos (by omega)), if_neg (by rw [show (4 : Int32) = nI 4 from rfl, nI_leI (by omega) (by omega)]; omega), nI_clamp (by omega)]
theorem stra_j {g : Nat → Int32} {n j : Nat} (hj : j < 3) : sp_X3_strainOf g n (nI j) = g (sF n (16 + j)) := by
  unfold sp_X3_strainOf
  rw [if_neg (nI_pos (by omega)), if_neg (by rw [show (3 : Int32) = nI 3 from rfl, nI_leI (by omega) (by omega)]; omega), nI_clamp (by omega)]
theorem sets_j {m : Mu} {n j : Nat} {v : Int32} (hj : j < 3) : sp_X3_setStrain m 0 n (nI j) v = pM m 0 (sF n (16 + j)) v := by
  unfold sp_X3_setStrain
  rw [if_neg (nI_pos (by omega)), if_neg (by rw [show (3 : Int32) = nI 3 from rfl, nI_leI (by omega) (by omega)]; omega), nI_clamp (by omega)]
theorem nle_rg {v L H : Int32} (h : L ≤ v ∧ v ≤ H) (hL : -2000000000 ≤ L.toInt) : ¬ v ≤ -2000000001 := by
  apply nle_bd
  have := h.1
  rw [Int32.le_iff_toInt_le] at this
  omega
theorem st_lead {B : Nat} {μ : Mu} (h : Inv B μ) (a b w : Int32) : Stq B (sp_X7_lead μ a b w) (fun m => sp_X8_lead m a b w) := by
  have hS := h.1
  unfold sp_X7_lead
  rw [senI hS]
  by_cases c : 0 ≤ a ∧ a ≤ μ.1 8 1 - 1
  · rw [if_pos c]
    obtain ⟨-, hn⟩ := sen_lt hS c
    have hc := simS_c hS
    generalize hna : a.toNatClampNeg = n at *
    show Stq B (if 0 ≤ b ∧ b < μ.1 0 (sF n 1) then _ else _) _
    rw [show μ.1 0 (sF n 1) = μ.1 8 (85 + 29 * n + 1) from (simS_N hS hn).1 1 (by omega)]
    have hW := ((simS_RI hS).2.2.2 n (by omega)).2.2
    by_cases c1 : 0 ≤ b ∧ b < μ.1 8 (85 + 29 * n + 1)
    · rw [if_pos c1]
      have c1' := (ni_pr hW (by omega)).mp c1
      obtain ⟨j, hj, rfl⟩ := ni_bl hW (by omega) c1
      have hj4 : j < 4 := by have := hW.2; omega
      by_cases c2 : (0 : Int32) ≤ w ∧ w ≤ 50000
      · rw [if_pos ((i2g (by decide) (by decide)).mpr c2), lead_j hj4, setl_j hj4, rec_0 h]
        refine stp_w (k' := 85 + 29 * n + (5 + j)) (v' := w) (w := μ.1 8 (85 + 29 * n + (5 + j))) h (Nat.le_refl _) ?_ ?_ (simS_B hS (by omega) (by omega)) ?_
        · have e8 : (pM (sp_X0_record μ) 0 (sF n (12 + j)) w).1 8 = μ.1 8 := by rw [row_n _ (by omega), rec_7 h (by omega)]
          show sp_X8_lead _ a (nI j) w = _
          unfold sp_X8_lead
          rw [e8, hna, if_pos ⟨c, c1'⟩, if_pos c2, nI_cl c2.1, nI_clamp (by omega)]
        · exact (simS_N hS hn).2.2.2.2.1 j hj4
        · exact simS_g hS hn (by omega) (by omega) (by omega) (by rw [ph_hi (by omega)]; omega) (nle_rg c2 (by decide)) (by omega) (by omega) (rgs_w (by omega) (by omega) (simS_R hS))
      · rw [if_neg (fun q => c2 ((i2g (by decide) (by decide)).mp q))]
        refine stp_no h (Nat.le_refl _) ?_
        show sp_X8_lead _ a (nI j) w = _
        unfold sp_X8_lead
        rw [hna, if_pos ⟨c, c1'⟩, if_neg c2]
    · rw [if_neg c1]
      refine stp_no h (Nat.le_refl _) ?_
      show sp_X8_lead _ a b w = _
      unfold sp_X8_lead
      rw [hna, if_neg (fun q => c1 ((ni_pr hW (by omega)).mpr q.2))]
  · rw [if_neg c]
    refine stp_no h (Nat.le_refl _) ?_
    show sp_X8_lead _ a b w = _
    unfold sp_X8_lead
    rw [if_neg (fun q => c q.1)]
theorem st_limits {B : Nat} {μ : Mu} (h : Inv B μ) (a b d e2 : Int32) : Stq B (sp_X7_limits μ a b d e2) (fun m => sp_X8_limits m a b d e2) := by
  have hS := h.1
  unfold sp_X7_limits
  rw [senI hS]
  by_cases c : 0 ≤ a ∧ a ≤ μ.1 8 1 - 1
  · rw [if_pos c]
    obtain ⟨-, hn⟩ := sen_lt hS c
    have hc := simS_c hS
    generalize hna : a.toNatClampNeg = n at *
    show Stq B (if (-200000 : Int64) ≤ b.toInt64 ∧ b.toInt64 ≤ 850000 then _ else _) _
    by_cases c1 : (-200000 : Int32) ≤ b ∧ b ≤ 850000
    · rw [if_pos ((i2t b).mpr c1)]
      by_cases c2 : b ≤ d ∧ d ≤ (850000 : Int32)
      · rw [if_pos ((i2g rfl (by decide)).mpr c2)]
        by_cases c3 : (0 : Int32) ≤ e2 ∧ e2 ≤ (100000 : Int32)
        · rw [if_pos ((i2g (by decide) (by decide)).mpr c3), rec_0 h]
          have hb := nle_rg c1 (by decide)
          have hd : ¬ d ≤ -2000000001 := nle_rg (L := -200000) (H := 850000) ⟨by
            have := c1.1; have h2 := c2.1
            rw [Int32.le_iff_toInt_le] at this h2 ⊢; omega, c2.2⟩ (by decide)
          have he := nle_rg c3 (by decide)
          refine stp_ch (m := pM (pM (pM (pM (pC (sp_X3_watch (sp_X0_record μ) 0 n b d e2) 11 0 8 0 259) 8 (85 + 29 * n + 14) b) 8 (85 + 29 * n + 15) d) 8 (85 + 29 * n + 16) e2) 8 (85 + 29 * n + 17) 0) (w := μ.1 8 (85 + 29 * n + 17)) h (Nat.le_refl _) ⟨rfl, fun c hc => ?_⟩ ?_ ?_ ⟨rfl, fun c h1 h2 => ?_, fun y hy => ?_⟩ (simS_B hS (by omega) (by omega)) ?_
          · unfold sp_X3_watch
            rw [row_n _ hc, row_n _ hc, row_n _ hc, row_n _ hc]
          · have e8 : (sp_X3_watch (sp_X0_record μ) 0 n b d e2).1 8 = μ.1 8 := by
              unfold sp_X3_watch
              rw [row_n _ (by omega), row_n _ (by omega), row_n _ (by omega), row_n _ (by omega), rec_7 h (by omega)]
            show sp_X8_limits _ a b d e2 = _
            unfold sp_X8_limits
            rw [e8, hna, if_pos c, if_pos c1, if_pos c2, if_pos c3, nI_cl c3.1]
          · exact (simS_N hS hn).2.2.2.1 3 (by omega)
          · rw [row_n _ h1, row_n _ h1, row_n _ h1, row_n _ h1, pC_row h2]
          · rw [row_n _ (by omega), row_n _ (by omega), row_n _ (by omega), row_n _ (by omega), kp_11 _ hy]
          · have e8 : (sp_X3_watch (sp_X0_record μ) 0 n b d e2).1 8 = μ.1 8 := by
              unfold sp_X3_watch
              rw [row_n _ (by omega), row_n _ (by omega), row_n _ (by omega), row_n _ (by omega), rec_7 h (by omega)]
            rw [row_s, row_s, row_s, row_s, pC_row (by omega), e8]
            unfold sp_X3_watch
            rw [row_s, row_s, row_s, row_s, rec_0 h]
            have s1 := simS_g (f := 7) (p := 14) hS hn (by omega) (by omega) (by omega) rfl hb (by omega) (by omega) (rgs_w (by omega) (by omega) (simS_R hS))
            have k1 : ∀ {s' : Nat → Int32} {x : Nat} {v : Int32}, n < cS s' → 1 ≠ x → n < cS (ur s' x v) := fun q1 q2 => by show n < (ur _ _ _ 1).toNatClampNeg; rw [ur_n q2]; exact q1
            have n1 := k1 (v := b) hn (show 1 ≠ 85 + 29 * n + 14 by omega)
            have s2 := simS_g (f := 8) (p := 15) s1 n1 (by omega) (by omega) (by omega) rfl hd (by omega) (by omega) (rgs_w (by omega) (by omega) (simS_R s1))
            have n2 := k1 (v := d) n1 (show 1 ≠ 85 + 29 * n + 15 by omega)
            have s3 := simS_g (f := 9) (p := 16) s2 n2 (by omega) (by omega) (by omega) rfl he (by omega) (by omega) (rgs_w (by omega) (by omega) (simS_R s2))
            have n3 := k1 (v := e2) n2 (show 1 ≠ 85 + 29 * n + 16 by omega)
            exact simS_g (f := 10) (p := 17) s3 n3 (by omega) (by omega) (by omega) rfl (by decide) (by omega) (fun _ => ni_z (by omega)) (rgs_w (by omega) (by omega) (simS_R s3))
        · rw [if_neg (fun q => c3 ((i2g (by decide) (by decide)).mp q))]
          refine stp_no h (Nat.le_refl _) ?_
          show sp_X8_limits _ a b d e2 = _
          unfold sp_X8_limits
          rw [if_pos c, if_pos c1, if_pos c2, if_neg c3]
      · rw [if_neg (fun q => c2 ((i2g rfl (by decide)).mp q))]
        refine stp_no h (Nat.le_refl _) ?_
        show sp_X8_limits _ a b d e2 = _
        unfold sp_X8_limits
        rw [if_pos c, if_pos c1, if_neg c2]
    · rw [if_neg (fun q => c1 ((i2t b).mp q))]
      refine stp_no h (Nat.le_refl _) ?_
      show sp_X8_limits _ a b d e2 = _
      unfold sp_X8_limits
      rw [if_pos c, if_neg c1]
  · rw [if_neg c]
    refine stp_no h (Nat.le_refl _) ?_
    show sp_X8_limits _ a b d e2 = _
    unfold sp_X8_limits
    rw [if_neg c]
