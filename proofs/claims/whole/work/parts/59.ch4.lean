/-! ===== node ===== -/
theorem nd_lp {x : Mu} {g : Nat → Int32} {a b d : Int32} {t : Nat} (ha : a = nI t) (ht : t < 3) (h7 : ni 7 (x.1 8 1)) (h1 : g 1 = x.1 8 1) (hg : ∀ n, n < cS (x.1 8) → g (sF n 0) = x.1 8 (85 + 29 * n + 0) ∧ ni 3 (x.1 8 (85 + 29 * n + 0))) : ∀ f k (u : Int32), k + f = 7 → (u = 0 ∨ u = 1) → k ≤ cS (x.1 8) → lp_X8_node_76 x a b d (f + 1) u k = lp_X8_node_76 x a b d 1 (if u = 0 ∨ ¬ lp_X4_hasSensorOf_2 g a f k = 0 then 0 else 1) (cS (x.1 8)) := by
  have c7 := h7.2
  have e1 : x.1 8 1 = nI (cS (x.1 8)) := h7.1
  intro f
  induction f with
  | zero => intro k u hk _ hc; exact absurd h7.2 (by show ¬ cS (x.1 8) < 7; omega)
  | succ f ih =>
    intro k u hk hu hc
    have c6 : cS (x.1 8) < 7 := h7.2
    by_cases c : cS (x.1 8) ≤ k
    · have ek : k = cS (x.1 8) := by omega
      have eh : lp_X4_hasSensorOf_2 g a (f + 1) k = 0 := by
        unfold lp_X4_hasSensorOf_2
        rw [if_pos (by rw [h1, e1, nI_leI (by omega) (by omega)]; exact c)]
      have eu : (if u = 0 ∨ ¬ lp_X4_hasSensorOf_2 g a (f + 1) k = 0 then (0 : Int32) else 1) = u := by
        rw [eh]
        rcases hu with rfl | rfl
        · rw [if_pos (Or.inl rfl)]
        · rw [if_neg (fun q => q.elim (fun z => absurd z (by decide)) (fun z => z rfl))]
      rw [eu, ek]
      unfold lp_X8_node_76
      have hle : nI (x.1 8 1).toNatClampNeg ≤ nI (cS (x.1 8)) := Int32.le_iff_toInt_le.mpr (Int.le_refl _)
      rw [if_pos hle, if_pos hle]
    · have h6 : k < 6 := by omega
      obtain ⟨g1, g2⟩ := hg k (by omega)
      have lh : lp_X4_hasSensorOf_2 g a (f + 1) k = if g (sF k 0) = a then 1 else lp_X4_hasSensorOf_2 g a f (k + 1) := by
        conv => lhs; unfold lp_X4_hasSensorOf_2
        rw [if_neg (by rw [h1, e1, nI_leI (by omega) (by omega)]; exact c), if_neg (by rw [show (6 : Int32) = nI 6 from rfl, nI_leI (by omega) (by omega)]; omega)]
      have lr : lp_X8_node_76 x a b d (f + 1 + 1) u k = if u = 0 then lp_X8_node_76 x a b d (f + 1) 0 (k + 1) else if g (sF k 0) = a then lp_X8_node_76 x a b d (f + 1) 0 (k + 1) else lp_X8_node_76 x a b d (f + 1) 1 (k + 1) := by
        conv => lhs; unfold lp_X8_node_76
        rw [if_neg (by rw [nI_leI (by omega) (by omega)]; exact c), g1]
        by_cases z : u = 0
        · rw [if_pos z, if_pos z]
        · rw [if_neg z, if_neg z, ha, nI_clamp (by omega), ni_eq g2]
      rw [lh, lr]
      by_cases z : u = 0
      · rw [if_pos z, if_pos (Or.inl z), ih (k + 1) 0 (by omega) (Or.inl rfl) (by omega), if_pos (Or.inl rfl)]
      · rw [if_neg z]
        by_cases y : g (sF k 0) = a
        · rw [if_pos y, if_pos y, ih (k + 1) 0 (by omega) (Or.inl rfl) (by omega), if_pos (Or.inl rfl), if_pos (Or.inr (by decide))]
        · rw [if_neg y, if_neg y, ih (k + 1) 1 (by omega) (Or.inr rfl) (by omega)]
          congr 1
          by_cases w : lp_X4_hasSensorOf_2 g a f (k + 1) = 0
          · rw [if_neg (fun q => q.elim (fun z => absurd z (by decide)) (fun z => z w)), if_neg (fun q => q.elim z (fun z => z w))]
          · rw [if_pos (Or.inr w), if_pos (Or.inr w)]
theorem hs_no {g : Nat → Int32} {a : Int32} {cnt : Nat} (h1 : g 1 = nI cnt) (hc : cnt < 7) : ∀ f k, k + f = 7 → lp_X4_hasSensorOf_2 g a f k = 0 → ∀ n, k ≤ n → n < cnt → g (sF n 0) ≠ a := by
  intro f
  induction f with
  | zero => intro k hk _ n h2 h3; omega
  | succ f ih =>
    intro k hk h n h2 h3 e
    unfold lp_X4_hasSensorOf_2 at h
    rw [if_neg (by rw [h1, nI_leI (by omega) (by omega)]; omega), if_neg (by rw [show (6 : Int32) = nI 6 from rfl, nI_leI (by omega) (by omega)]; omega)] at h
    by_cases y : g (sF k 0) = a
    · rw [if_pos y] at h; exact absurd h (by decide)
    · rw [if_neg y] at h
      by_cases d : n = k
      · subst d; exact y e
      · exact ih (k + 1) (by omega) h n (by omega) h3 e
theorem rt_ag {s s' : Nat → Int32} {t : Nat} (e : ∀ y, 10 + 25 * t ≤ y → y < 35 + 25 * t → s' y = s y) (hN : rN s t < 13) (h : RT s t ∧ RQ s t) : RT s' t ∧ RQ s' t := by
  have eN : rN s' t = rN s t := by unfold rN; rw [e _ (by omega) (by omega)]
  unfold RT RQ
  rw [eN]
  exact ⟨⟨fun k hk => by rw [e _ (by omega) (by omega), e _ (by omega) (by omega)]; exact h.1.1 k hk, fun k hk => by rw [e _ (by omega) (by omega)]; exact h.1.2 k hk⟩, ⟨fun k hk => by rw [e _ (by omega) (by omega), e _ (by omega) (by omega)]; exact h.2.1 k hk, fun k hk => by rw [e _ (by omega) (by omega)]; exact h.2.2 k hk⟩⟩
theorem rs_ag {s s' : Nat → Int32} {n : Nat} (eo : s' (85 + 29 * n + 0) = s (85 + 29 * n + 0)) (e : ∀ y, 10 + 25 * (oN s n) ≤ y → y < 35 + 25 * (oN s n) → s' y = s y) (hN : rN s (oN s n) < 13) (e2 : ∀ k, k < 10 → s' (85 + 29 * n + k) = s (85 + 29 * n + k)) (h : RS s n) : RS s' n := by
  have eo : oN s' n = oN s n := by unfold oN; rw [eo]
  have eN : rN s' (oN s n) = rN s (oN s n) := by unfold rN; rw [e _ (by omega) (by omega)]
  have eL : rL s' (oN s n) = rL s (oN s n) := by unfold rL; rw [eN, e _ (by omega) (by omega)]
  unfold RS
  rw [eo, eN, eL, e _ (by omega) (by omega), e2 4 (by omega), e2 2 (by omega), e2 3 (by omega), e2 9 (by omega)]
  exact h
def nodS (s : Nat → Int32) (t N : Nat) (b d : Int32) : Nat → Int32 := ur (ur (ur s (11 + 25 * t + N) b) (23 + 25 * t + N) d) (10 + 25 * t) (nI (N + 1))
theorem nodS_o {s : Nat → Int32} {t N : Nat} {b d : Int32} {y : Nat} (h1 : y ≠ 11 + 25 * t + N) (h2 : y ≠ 23 + 25 * t + N) (h3 : y ≠ 10 + 25 * t) : nodS s t N b d y = s y := by
  unfold nodS
  rw [ur_n h3, ur_n h2, ur_n h1]
theorem nodS_b {s : Nat → Int32} {t N : Nat} {b d : Int32} : nodS s t N b d (11 + 25 * t + N) = b := by
  unfold nodS
  rw [ur_n (by omega), ur_n (by omega), ur_s]
theorem nodS_d {s : Nat → Int32} {t N : Nat} {b d : Int32} : nodS s t N b d (23 + 25 * t + N) = d := by
  unfold nodS
  rw [ur_n (by omega), ur_s]
theorem nodS_n {s : Nat → Int32} {t N : Nat} {b d : Int32} : nodS s t N b d (10 + 25 * t) = nI (N + 1) := ur_s
theorem simS_node {B t N : Nat} {g s : Nat → Int32} {b d : Int32} (h : SimS B g s) (ht : t < 3) (htc : t < (s 0).toNatClampNeg) (hN : N < 12) (hs : s (10 + 25 * t) = nI N) (hno' : ∀ n, n < cS s → oN s n ≠ t) (hb1 : -200000 ≤ b.toInt ∧ b.toInt ≤ 850000) (hd1 : 1 ≤ d.toInt ∧ d.toInt ≤ 10000000) (hb2 : 0 < N → s (11 + 25 * t + (N - 1)) < b) (hd2 : 0 < N → s (23 + 25 * t + (N - 1)) < d) : SimS B (nodS g t N b d) (nodS s t N b d) := by
  have c := simS_c h
  obtain ⟨hT, hP, hN', hpl, hno, hnt, hR, hm, hd, hb⟩ := h
  have lo : ∀ (s : Nat → Int32) y, (y < 10 ∨ 85 ≤ y) → nodS s t N b d y = s y := fun s y hy => nodS_o (by omega) (by omega) (by omega)
  have e1 : nodS s t N b d 1 = s 1 := lo s 1 (by omega)
  have cc : cS (nodS s t N b d) = cS s := by show (nodS s t N b d 1).toNatClampNeg = _; rw [e1]
  have er : rN s t = N := by unfold rN; rw [hs, nI_clamp (by omega)]
  have er' : rN (nodS s t N b d) t = N + 1 := by unfold rN; rw [nodS_n, nI_clamp (by omega)]
  refine ⟨⟨?_, ?_, fun k hk => ?_, fun k hk => ?_⟩, ?_, fun n hn => ⟨fun f hf h6 => ?_, ?_⟩, fun n hn => ?_, fun n hn hc => ⟨fun f hf h6 => ?_, ?_⟩, fun t' ht' hc => ?_, ?_, ?_, fun n n' hn hn' e => ?_, fun k hk => ?_, fun n hn => ⟨fun f hf => ?_, ?_⟩⟩
  · rw [lo _ _ (by omega), lo _ _ (by omega)]; exact hT.1
  · rw [lo _ _ (by omega), lo _ _ (by omega)]; exact hT.2.1
  · rw [lo _ _ (by omega), lo _ _ (by omega)]; exact hT.2.2.1 k hk
  · unfold nodS ur
    rw [hT.2.2.2 k hk]
  · rw [lo _ _ (by omega), lo _ _ (by omega)]; exact hP
  · rw [lo _ _ (by omega), lo _ _ (by omega)]; exact (hN' n hn).1 f hf h6
  · obtain ⟨r, a1, a2, a3, a4⟩ := (hN' n hn).2
    refine ⟨r, a1, ?_, ?_, fun i hi => ?_⟩
    · rw [lo _ _ (by omega)]; exact a2
    · rw [lo _ _ (by omega)]; exact a3
    · rw [lo _ _ (by omega), lo _ _ (by omega)]; exact a4 i hi
  · rw [cc] at hn
    rw [lo _ _ (by omega), lo _ _ (by omega)]; exact hpl n hn
  · rw [cc] at hc
    rw [lo _ _ (by omega)]; exact (hno n hn hc).1 f hf h6
  · rw [cc] at hc
    rw [lo _ _ (by omega)]; exact (hno n hn hc).2
  · rw [lo _ _ (by omega)] at hc
    rw [nodS_o (by omega) (by omega) (by omega)]; exact hnt t' ht' hc
  · obtain ⟨⟨hI, hT, q2, q3, q4, q5⟩, hS⟩ := hR
    refine ⟨⟨⟨by rw [lo _ _ (by omega)]; exact hI.1, by rw [e1]; exact hI.2.1, fun t' ht' => ?_, fun n hn => by rw [lo _ _ (by omega), lo _ _ (by omega), lo _ _ (by omega)]; exact hI.2.2.2 n hn⟩, fun t' ht' => ?_, by rw [lo _ _ (by omega)]; exact q2, by rw [lo _ _ (by omega)]; exact q3, by rw [lo _ _ (by omega)]; exact q4, by rw [lo _ _ (by omega)]; exact q5⟩, fun n hn => ?_⟩
    · by_cases e : t' = t
      · subst e; rw [nodS_n]; exact ni_nI (by omega) (by omega)
      · rw [nodS_o (by omega) (by omega) (by omega)]; exact hI.2.2.1 t' ht'
    · by_cases e : t' = t
      · subst e
        obtain ⟨a, b'⟩ := hT t' ht'
        rw [show RT s t' = ((∀ k, k + 1 < rN s t' → s (11 + 25 * t' + k) < s (11 + 25 * t' + (k + 1))) ∧ ∀ k, k < rN s t' → -200000 ≤ (s (11 + 25 * t' + k)).toInt ∧ (s (11 + 25 * t' + k)).toInt ≤ 850000) from rfl, er] at a
        rw [show RQ s t' = ((∀ k, k + 1 < rN s t' → (s (23 + 25 * t' + k)).toInt ≤ (s (23 + 25 * t' + (k + 1))).toInt) ∧ ∀ k, k < rN s t' → 1 ≤ (s (23 + 25 * t' + k)).toInt ∧ (s (23 + 25 * t' + k)).toInt ≤ 10000000) from rfl, er] at b'
        unfold RT RQ
        rw [er']
        refine ⟨⟨fun k hk => ?_, fun k hk => ?_⟩, ⟨fun k hk => ?_, fun k hk => ?_⟩⟩
        · rw [nodS_o (y := 11 + 25 * t' + k) (by omega) (by omega) (by omega)]
          by_cases f : k + 1 = N
          · rw [f, nodS_b, show k = N - 1 by omega]; exact hb2 (by omega)
          · rw [nodS_o (by omega) (by omega) (by omega)]; exact a.1 k (by omega)
        · by_cases f : k = N
          · rw [f, nodS_b]; exact hb1
          · rw [nodS_o (by omega) (by omega) (by omega)]; exact a.2 k (by omega)
        · rw [nodS_o (y := 23 + 25 * t' + k) (by omega) (by omega) (by omega)]
          by_cases f : k + 1 = N
          · have := hd2 (by omega)
            rw [Int32.lt_iff_toInt_lt] at this
            rw [f, nodS_d, show k = N - 1 by omega]; omega
          · rw [nodS_o (by omega) (by omega) (by omega)]; exact b'.1 k (by omega)
        · by_cases f : k = N
          · rw [f, nodS_d]; exact hd1
          · rw [nodS_o (by omega) (by omega) (by omega)]; exact b'.2 k (by omega)
      · exact rt_ag (fun y h1 h2 => nodS_o (by omega) (by omega) (by omega)) (hI.2.2.1 t' ht').2 (hT t' ht')
    · rw [cc] at hn
      have o3 := (hI.2.2.2 n (by omega)).1.2
      have o3' : oN s n < 3 := o3
      have hne := hno' n hn
      exact rs_ag (lo _ _ (by omega)) (fun y h1 h2 => nodS_o (by omega) (by omega) (by omega)) (hI.2.2.1 _ o3').2 (fun k hk => lo _ _ (by omega)) (hS n hn)
  · rw [lo _ _ (by omega)]; exact hm
  · rw [cc] at hn
    rw [lo _ _ (by omega), lo _ _ (by omega)] at e
    rw [lo _ _ (by omega)]; exact hd n n' hn hn' e
  · rw [lo _ _ (by omega)]; exact hb.1 k hk
  · rw [lo _ _ (by omega)]; exact (hb.2 n hn).1 f hf
  · exact brk_eq (hb.2 n hn).2 (lo _ _ (by omega)) (lo _ _ (by omega))
theorem may_1 {B : Nat} {g s : Nat → Int32} (h : SimS B g s) {t N : Nat} (ht : t < 3) (hs : s (10 + 25 * t) = nI N) (hN : N < 13) (b d : Int32) : sp_X5_mayGoOn g t b d = if nI N = 0 then 1 else if b ≤ s (11 + 25 * t + (N - 1)) then 0 else if d ≤ s (23 + 25 * t + (N - 1)) then 0 else 1 := by
  unfold sp_X5_mayGoOn
  rw [show g (tN t) = nI N from (sT_N h.1 ht).trans hs]
  by_cases c : nI N = 0
  · rw [if_pos c, if_pos c]
  · have hp : 0 < N := Nat.pos_of_ne_zero (fun q => c (by rw [q]; rfl))
    rw [if_neg c, if_neg c, show nI N - 1 = nI (N - 1) from pk_sub (b := 1) (by omega), tmpOf (nI_pos (by omega)) (by rw [show (12 : Int32) = nI 12 from rfl, nI_leI (by omega) (by omega)]; omega), ratOf (nI_pos (by omega)) (by rw [show (12 : Int32) = nI 12 from rfl, nI_leI (by omega) (by omega)]; omega), nI_clamp (by omega), sT_D h.1 ht (by omega), sT_R h.1 ht (by omega)]
theorem st_node {B : Nat} {μ : Mu} (h : Inv B μ) (a b d : Int32) : Stq B (sp_X7_node μ a b d) (fun m => sp_X8_node m a b d) := by
  have hS := h.1
  have hI := simS_RI hS
  have c7 := simS_c hS
  have hle : nI (μ.1 8 1).toNatClampNeg ≤ nI (cS (μ.1 8)) := Int32.le_iff_toInt_le.mpr (Int.le_refl _)
  unfold sp_X7_node
  rw [tabI hS]
  by_cases c : 0 ≤ a ∧ a ≤ μ.1 8 0 - 1
  · rw [if_pos c]
    obtain ⟨ea, htc⟩ := ni_of hI.1 (by decide) c
    have h4 := hI.1.2
    generalize hta : a.toNatClampNeg = t at *
    have ht : t < 3 := by omega
    show Stq B (if (-200000 : Int64) ≤ b.toInt64 ∧ b.toInt64 ≤ 850000 then _ else _) _
    by_cases c1 : (-200000 : Int32) ≤ b ∧ b ≤ 850000
    · rw [if_pos ((i2t b).mpr c1)]
      by_cases c2 : (1 : Int32) ≤ d ∧ d ≤ 10000000
      · rw [if_pos ((i2r d).mpr c2)]
        obtain ⟨N, hN, eN⟩ : ∃ N, N < 13 ∧ μ.1 8 (10 + 25 * t) = nI N := ⟨_, (hI.2.2.1 t ht).2, (hI.2.2.1 t ht).1⟩
        have em := may_1 hS ht eN hN b d
        -- the reference, wherever its row 8 is this one
        have ref : ∀ x : Mu, x.1 8 = μ.1 8 → sp_X8_node x a b d = lp_X8_node_76 x a b d 1 (if sp_X5_mayGoOn (μ.1 0) t b d = 0 ∨ ¬ sp_X4_hasSensorOf (μ.1 0) a = 0 then 0 else 1) (cS (μ.1 8)) := by
          intro x ex
          have lp : ∀ u : Int32, (u = 0 ∨ u = 1) → lp_X8_node_76 x a b d 8 u 0 = lp_X8_node_76 x a b d 1 (if u = 0 ∨ ¬ sp_X4_hasSensorOf (μ.1 0) a = 0 then 0 else 1) (cS (μ.1 8)) := by
            intro u hu
            have q := nd_lp (x := x) (g := μ.1 0) (a := a) (b := b) (d := d) ea ht (by rw [ex]; exact hI.2.1) (by rw [ex]; exact hS.1.2.1) (fun n hn => by
              rw [ex] at hn ⊢
              exact ⟨(simS_N hS hn).1 0 (by omega), (hI.2.2.2 n (by omega)).1⟩) 7 0 u rfl hu (Nat.zero_le _)
            rw [ex] at q
            exact q
          unfold sp_X8_node
          rw [ex, hta, if_pos c, if_pos c1, if_pos c2, eN, nI_clamp (by omega), em]
          by_cases z : nI N = 0
          · rw [if_pos z, if_pos z, lp 1 (Or.inr rfl)]
          · rw [if_neg z, if_neg z]
            by_cases z2 : b ≤ μ.1 8 (11 + 25 * t + (N - 1))
            · rw [if_pos z2, if_pos z2, lp 0 (Or.inl rfl)]
            · rw [if_neg z2, if_neg z2]
              by_cases z3 : d ≤ μ.1 8 (23 + 25 * t + (N - 1))
              · rw [if_pos z3, if_pos z3, lp 0 (Or.inl rfl)]
              · rw [if_neg z3, if_neg z3, lp 1 (Or.inr rfl)]
        have ex1 : ∀ (x : Mu) (u : Int32), x.1 8 = μ.1 8 → u = 0 → lp_X8_node_76 x a b d 1 u (cS (μ.1 8)) = (-2000000002, x) := by
          intro x u ex eu
          unfold lp_X8_node_76
          rw [ex, if_pos hle, if_pos eu, if_pos eu]
        by_cases c3 : sp_X4_hasSensorOf (μ.1 0) a = 0
        · rw [if_pos c3]
          by_cases c4 : sp_X5_mayGoOn (μ.1 0) t b d = 0
          · rw [if_pos c4]
            refine stp_no h (Nat.le_refl _) ?_
            show sp_X8_node _ a b d = _
            rw [ref μ rfl, if_pos (Or.inl c4), ex1 μ 0 rfl rfl]
          · rw [if_neg c4, show μ.1 0 (tN t) = nI N from (sT_N hS.1 ht).trans eN]
            have ev : (if sp_X5_mayGoOn (μ.1 0) t b d = 0 ∨ ¬ sp_X4_hasSensorOf (μ.1 0) a = 0 then (0 : Int32) else 1) = 1 := if_neg (fun q => q.elim c4 (fun z => z c3))
            by_cases c5 : N < 12
            · rw [if_pos (by rw [show (12 : Int32) = nI 12 from rfl, nI_ltI (by omega) (by omega)]; exact c5)]
              have eap : sp_X5_append (sp_X0_record μ) 0 t b d = pM (pM (pM (sp_X0_record μ) 0 (tD t N) b) 0 (tR t N) d) 0 (tN t) (nI (N + 1)) := by
                unfold sp_X5_append
                rw [rec_0 h, show μ.1 0 (tN t) = nI N from (sT_N hS.1 ht).trans eN, if_neg (nI_pos (by omega)), if_neg (by rw [show (12 : Int32) = nI 12 from rfl, nI_leI (by omega) (by omega)]; omega), if_neg (by rw [show (12 : Int32) = nI 12 from rfl, nI_leI (by omega) (by omega)]; omega), nI_clamp (by omega), nI_1]
              rw [eap, row_at]
              generalize hx : pM (pM (pM (sp_X0_record μ) 0 (tD t N) b) 0 (tR t N) d) 0 (tN t) (nI (N + 1)) = x
              have xr : ∀ c, c ≠ 0 → x.1 c = (sp_X0_record μ).1 c := fun c hc => by rw [← hx, row_n _ hc, row_n _ hc, row_n _ hc]
              have x0 : x.1 0 = nodS (μ.1 0) t N b d := by rw [← hx, row_s, row_s, row_s, rec_0 h]; rfl
              have xK : x.2.2 = (sp_X0_record μ).2.2 := by rw [← hx]; rfl
              have x8 : x.1 8 = μ.1 8 := (xr 8 (by omega)).trans (rec_7 h (by omega))
              refine stp_ch (m := pM (pM (pM (pC x 11 0 8 0 259) 8 (10 + 25 * t + 1 + N) b) 8 (10 + 25 * t + 13 + N) d) 8 (10 + 25 * t) (nI (N + 1))) (w := nI (N + 1)) h (Nat.le_refl _) ⟨xK, xr⟩ ?_ rfl ⟨rfl, fun c h1 h2 => ?_, fun y hy => ?_⟩ (nle_bd (by rw [nI_toInt (by omega)]; omega)) ?_
              · show sp_X8_node _ a b d = _
                rw [ref x x8, ev]
                unfold lp_X8_node_76
                have ez : (pM (pM (pC x 11 0 8 0 259) 8 (10 + 25 * t + 1 + N) b) 8 (10 + 25 * t + 13 + N) d).1 8 (10 + 25 * t) = nI N := by
                  rw [row_k _ (by omega), row_k _ (by omega), pC_row (by omega), x8, eN]
                rw [x8, hta, eN, nI_clamp (by omega), if_pos hle, if_neg (by decide), if_neg (fun q => by have := nI_ij (b := 12) (by omega) (by omega) q; omega), ez, nI_1]
              · rw [row_n _ h1, row_n _ h1, row_n _ h1, pC_row h2]
              · rw [row_n _ (by omega), row_n _ (by omega), row_n _ (by omega), kp_11 _ hy]
              · rw [x0, row_s, row_s, row_s, pC_row (by omega), x8, show 10 + 25 * t + 1 + N = 11 + 25 * t + N by omega, show 10 + 25 * t + 13 + N = 23 + 25 * t + N by omega]
                have nz : 0 < N → ¬ nI N = 0 := fun hp => nI_ne0 hp (by omega)
                have c1i := rg_int c1
                have c2i := rg_int c2
                rw [em] at c4
                refine simS_node hS ht htc c5 eN (fun n hn q => ?_) c1i c2i (fun hp => ?_) (fun hp => ?_)
                · have := hs_no (g := μ.1 0) (a := a) (hS.1.2.1.trans hI.2.1.1) c7 7 0 rfl c3 n (Nat.zero_le _) hn
                  apply this
                  rw [show μ.1 0 (sF n 0) = μ.1 8 (85 + 29 * n + 0) from (simS_N hS hn).1 0 (by omega), (hI.2.2.2 n (by omega)).1.1, ea]
                  unfold oN at q
                  rw [q]
                · rw [if_neg (nz hp)] at c4
                  by_cases z2 : b ≤ μ.1 8 (11 + 25 * t + (N - 1))
                  · rw [if_pos z2] at c4; exact absurd rfl c4
                  · rw [Int32.lt_iff_toInt_lt]; rw [Int32.le_iff_toInt_le] at z2; omega
                · rw [if_neg (nz hp)] at c4
                  by_cases z2 : b ≤ μ.1 8 (11 + 25 * t + (N - 1))
                  · rw [if_pos z2] at c4; exact absurd rfl c4
                  · rw [if_neg z2] at c4
                    by_cases z3 : d ≤ μ.1 8 (23 + 25 * t + (N - 1))
                    · rw [if_pos z3] at c4; exact absurd rfl c4
                    · rw [Int32.lt_iff_toInt_lt]; rw [Int32.le_iff_toInt_le] at z3; omega
            · rw [if_neg (by rw [show (12 : Int32) = nI 12 from rfl, nI_ltI (by omega) (by omega)]; exact c5)]
              refine stp_no h (Nat.le_refl _) ?_
              show sp_X8_node _ a b d = _
              rw [ref μ rfl, ev]
              unfold lp_X8_node_76
              rw [if_pos hle, if_neg (by decide), hta, eN, nI_clamp (by omega), show N = 12 by omega, if_pos (show nI 12 = (12 : Int32) from rfl), if_neg (by decide)]
        · rw [if_neg c3]
          refine stp_no h (Nat.le_refl _) ?_
          show sp_X8_node _ a b d = _
          rw [ref μ rfl, if_pos (Or.inr c3), ex1 μ 0 rfl rfl]
      · rw [if_neg (fun q => c2 ((i2r d).mp q))]
        refine stp_no h (Nat.le_refl _) ?_
        show sp_X8_node _ a b d = _
        unfold sp_X8_node
        rw [if_pos c, if_pos c1, if_neg c2]
    · rw [if_neg (fun q => c1 ((i2t b).mp q))]
      refine stp_no h (Nat.le_refl _) ?_
      show sp_X8_node _ a b d = _
      unfold sp_X8_node
      rw [if_pos c, if_neg c1]
  · rw [if_neg c]
    refine stp_no h (Nat.le_refl _) ?_
    show sp_X8_node _ a b d = _
    unfold sp_X8_node
    rw [if_neg c]
