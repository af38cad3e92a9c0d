/-! ===== the law: reads ===== -/
section RX
variable {μ u : Mu} {T N B k : Nat}
theorem ratI_c {D R D' R' : Nat → Int} (e : ∀ k, k < 4 → D' k = D k ∧ R' k = R k) (x : Int) : ratI D' R' x = ratI D R x := by
  unfold ratI
  rw [(e 0 (by decide)).1, (e 1 (by decide)).1, (e 2 (by decide)).1, (e 3 (by decide)).1, (e 0 (by decide)).2, (e 1 (by decide)).2, (e 2 (by decide)).2, (e 3 (by decide)).2]
theorem iv_c {D R D' R' : Nat → Int} (e : ∀ k, k < 4 → D' k = D k ∧ R' k = R k) {w x : Int} (h : Iv D R w x) : Iv D' R' w x := by
  unfold Iv
  rw [(e 0 (by decide)).1, (e 3 (by decide)).1, ratI_c e]
  exact ⟨h.1, h.2.1, h.2.2.1, fun y h1 h2 => by rw [ratI_c e]; exact h.2.2.2 y h1 h2⟩
theorem a_rd (hs : Same μ u) (h : Gd (μ.1 0) T N B) (hk : k < N) (hB : B < 1000) (hO : Hok μ) : (dgn (μ.1 0) k ≠ 0 ∧ (sp_X7_read u (nI k)).1 = -2000000002 ∧ Same μ (sp_X7_read u (nI k)).2) ∨ (dgn (μ.1 0) k = 0 ∧ ∃ (x : Int32) (t : Nat) (z : Int), t < T ∧ (μ.1 0) (sF k 0) = nI t ∧ Iv (dI (μ.1 0) t) (rI (μ.1 0) t) z x.toInt ∧ (sp_X7_read u (nI k)).1 = x ∧ Rdn (sp_X7_read u (nI k)).2 (μ.1 0) T N B k x) := by
  have q := rd_v (μ := u) (by rw [hs.g]; exact h) hk hB (hO.same hs)
  rw [hs.g] at q
  rcases q with ⟨a, b, c⟩ | q
  · exact Or.inl ⟨a, b, hs.tr c⟩
  · exact Or.inr q
theorem dg_p (h : Gd (μ.1 0) T N B) (hk : k < N) (h0 : dgn (μ.1 0) k ≠ 0) : ¬ dgn (μ.1 0) k ≤ 0 := by
  have h4 := h.1.2
  rcases dg_c (g := μ.1 0) (k := k) (by rw [(h.2.2.2.2.1 k hk).2.2.2.2.2.1]; exact pl_ne (by unfold plc; omega)) with z | z | z
  · exact absurd z.1 h0
  · rw [z]; decide
  · rcases z.1 with z | z | z | z | z <;> (rw [z]; decide)
end RX
set_option maxHeartbeats 8000000 in
set_option maxRecDepth 100000 in
theorem k_L_reads (l : Launch) (E : En) (μ : Mu) {T N B k : Nat} (h : Gd (μ.1 0) T N B) (hk : k < N) (hB : B < 990) (hO : Hok μ) : MtP l yL_reads cL_reads 6 .boolean ({ frames := 5, cells := 0, slots := 0, locals := 133 }) [.ref (E.1 231), .int (nI k)] E μ (fun r u => r = 1 ∧ Gd (u.1 0) T N (B + 1) ∧ Hok u ∧ u.1 0 2 = μ.1 0 2) := by
  refine mt_of (by decide +kernel) (Nat.le_of_ble_eq_true rfl) ?_
  intro p e s m args below meth c ls hf hr hlocks hl hw
  have hx := hf.1
  have hb := hf.2.1
  have hl : lv_has ls 6 [(0, .ref (E.1 231)), (1, .int (nI k))] := hl
  have hN : N ≤ 6 := by have := h.1.2; omega
  have h1 := h.2.1.2
  have hT2 : T ≤ 2 := h.1.1
  obtain ⟨-, j1, -, -, -, -, ⟨j7, j8, -, -⟩, ⟨r, hrB, j11⟩, -, -⟩ := h.2.2.2.2.1 k hk
  refine lv_aload_n hx hb dL_reads_0 rfl (lv_at hl 0 rfl) ?_
  refine lv_iload_n hx hb dL_reads_1 rfl (lv_at hl 1 rfl) ?_
  refine c_iV (v := dgn (μ.1 0) k) (P := fun z => Same μ z) (a_dg Same.rf h1 hN hk) hw (run_V (As := [.int (nI k)]) (rest := []) (np := 1) hf hw (k_X7_diagnosis l E _ (nI k)) ⟨gl_V q245 q246 q247 q2 q248, by decide +kernel⟩ ⟨rfl, rfl, Nat.le_of_ble_eq_true rfl, Nat.le_of_ble_eq_true rfl⟩ (by decide) (c_O E _) rfl rfl hl.1 rfl (Nat.le_of_ble_eq_true rfl) dL_reads_2 ⟨Nat.zero_le _, Nat.zero_le _⟩) (fun μ1 H locs s1 hw => ?_)
  refine lv_istore_n (lv' := [(2, .int (dgn (μ.1 0) k)), (0, .ref (E.1 231)), (1, .int (nI k))]) hx hb dL_reads_5 rfl hl (by decide) rfl (fun ls hl => ?_)
  refine lv_aload_n hx hb dL_reads_6 rfl (lv_at hl 1 rfl) ?_
  refine lv_iload_n hx hb dL_reads_7 rfl (lv_at hl 2 rfl) ?_
  refine lv_bipush (v := 18) hx hb dL_reads_8 (by decide) ?_
  refine c_iV (v := μ.1 0 (sF k 11)) (P := fun z => Same μ z) (a_s18 s1 h1 hN hk) hw (run_V (As := [.int (nI k), .int 18]) (rest := []) (np := 2) hf hw (k_X7_sensorOf l E _ (nI k) 18) ⟨gl_V q199 q200 q201 q2 q202, by decide +kernel⟩ ⟨rfl, rfl, Nat.le_of_ble_eq_true rfl, Nat.le_of_ble_eq_true rfl⟩ (by decide) (c_O E _) rfl rfl hl.1 rfl (Nat.le_of_ble_eq_true rfl) dL_reads_10 ⟨Nat.zero_le _, Nat.zero_le _⟩) (fun μ2 H locs s2 hw => ?_)
  refine lv_istore_n (lv' := [(3, .int (μ.1 0 (sF k 11))), (2, .int (dgn (μ.1 0) k)), (0, .ref (E.1 231)), (1, .int (nI k))]) hx hb dL_reads_13 rfl hl (by decide) rfl (fun ls hl => ?_)
  rcases a_rd s2 h hk (by omega) hO with ⟨c0, e1, e2⟩ | ⟨c0, x, t, z, ht, et, hz, e1, e2⟩
  · have c1 := dg_p h hk c0
    refine lv_aload_n hx hb dL_reads_14 rfl (lv_at hl 2 rfl) ?_
    refine lv_iload_n hx hb dL_reads_15 rfl (lv_at hl 3 rfl) ?_
    refine c_iV (v := (-2000000002)) (P := fun z => Same μ z) (⟨e1, e2⟩) hw (run_V (As := [.int (nI k)]) (rest := []) (np := 1) hf hw (k_X7_read l E _ (nI k) ((hO.same s2).K)) ⟨gl_V q506 q507 q508 q2 q509, by decide +kernel⟩ ⟨rfl, rfl, Nat.le_of_ble_eq_true rfl, Nat.le_of_ble_eq_true rfl⟩ (by decide) (c_O E _) rfl rfl hl.1 rfl (Nat.le_of_ble_eq_true rfl) dL_reads_16 ⟨Nat.zero_le _, Nat.zero_le _⟩) (fun μ3 H locs s3 hw => ?_)
    refine lv_istore (lv' := [(4, .int (-2000000002)), (3, .int (μ.1 0 (sF k 11))), (2, .int (dgn (μ.1 0) k)), (0, .ref (E.1 231)), (1, .int (nI k))]) hx hb dL_reads_19 hl (by decide) rfl (fun ls hl => ?_)
    refine lv_iload_n hx hb dL_reads_21 rfl (lv_at hl 2 rfl) ?_
    refine lv_if_le (tgt := 49) hx hb dL_reads_22 (by decide) (fun c => absurd c c1) (fun _ => ?_)
    refine lv_iload hx hb dL_reads_25 (lv_at hl 0 rfl) ?_
    refine lv_ldc hx hb hf.2.2.2.1 (hf.2.2.2.2 _ q9) dL_reads_27 ?_
    refine lv_icmp_ne (tgt := 47) hx hb dL_reads_29 (by decide) (fun c => absurd (by decide) c) (fun _ => ?_)
    refine lv_aload_n hx hb dL_reads_32 rfl (lv_at hl 3 rfl) ?_
    refine lv_iload_n hx hb dL_reads_33 rfl (lv_at hl 4 rfl) ?_
    refine lv_bipush (v := 18) hx hb dL_reads_34 (by decide) ?_
    refine c_iV (v := μ.1 0 (sF k 11)) (P := fun z => Same μ z) (a_s18 s3 h1 hN hk) hw (run_V (As := [.int (nI k), .int 18]) (rest := []) (np := 2) hf hw (k_X7_sensorOf l E _ (nI k) 18) ⟨gl_V q199 q200 q201 q2 q202, by decide +kernel⟩ ⟨rfl, rfl, Nat.le_of_ble_eq_true rfl, Nat.le_of_ble_eq_true rfl⟩ (by decide) (c_O E _) rfl rfl hl.1 rfl (Nat.le_of_ble_eq_true rfl) dL_reads_36 ⟨Nat.zero_le _, Nat.zero_le _⟩) (fun μ4 H locs s4 hw => ?_)
    refine lv_iload_n hx hb dL_reads_39 rfl (lv_at hl 1 rfl) ?_
    refine lv_icmp_ne (tgt := 47) hx hb dL_reads_40 (by decide) (fun c => absurd rfl c) (fun _ => ?_)
    refine lv_iconst (v := 1) hx hb dL_reads_43 (by decide) ?_
    refine lv_goto (tgt := 48) hx hb dL_reads_44 (by decide) ?_
    exact e_iP hf hr hlocks hw rfl (⟨rfl, by rw [s4.g]; exact gd_mono h (Nat.le_succ _), hO.same s4, by rw [s4.g]⟩) dL_reads_48
  · have hrg := iv_rg (h.2.2.2.1 t ht) hz
    refine lv_aload_n hx hb dL_reads_14 rfl (lv_at hl 2 rfl) ?_
    refine lv_iload_n hx hb dL_reads_15 rfl (lv_at hl 3 rfl) ?_
    refine c_iV (v := x) (P := fun z => Rdn z (μ.1 0) T N B k x) (⟨e1, e2⟩) hw (run_V (As := [.int (nI k)]) (rest := []) (np := 1) hf hw (k_X7_read l E _ (nI k) ((hO.same s2).K)) ⟨gl_V q506 q507 q508 q2 q509, by decide +kernel⟩ ⟨rfl, rfl, Nat.le_of_ble_eq_true rfl, Nat.le_of_ble_eq_true rfl⟩ (by decide) (c_O E _) rfl rfl hl.1 rfl (Nat.le_of_ble_eq_true rfl) dL_reads_16 ⟨Nat.zero_le _, Nat.zero_le _⟩) (fun μ5 H locs s5 hw => ?_)
    obtain ⟨g3, k3, e19, e11, ef, ey⟩ := s5
    have h1b := g3.2.1.2
    have hT3 := g3.2.2.2.1 t ht
    have eD : ∀ i, i < 4 → dI (μ5.1 0) t i = dI (μ.1 0) t i ∧ rI (μ5.1 0) t i = rI (μ.1 0) t i := fun i hi => ⟨by unfold dI; rw [ey _ (by unfold tD; omega)], by unfold rI; rw [ey _ (by unfold tR; omega)]⟩
    have hz3 := iv_c eD hz
    have hf3 := iv_fix hz3
    have va := rat_val hT3 hz3.1 hz3.2.1
    have ga := ratI_rg (tb_asc hT3) hz3.1 hz3.2.1
    have b0 := hT3.2.2 0 (by decide)
    have b3 := hT3.2.2 3 (by decide)
    have rg3 : 1 ≤ (sp_X5_ratioAt (μ5.1 0) t x).toInt ∧ (sp_X5_ratioAt (μ5.1 0) t x).toInt ≤ 10000000 := by rw [va]; omega
    have fin : sp_X5_temperatureFor (μ5.1 0) t (sp_X5_ratioAt (μ5.1 0) t x).toInt64 = x := Int32.toInt_inj.mp (iv_uniq (iv_of hT3 (w := sp_X5_ratioAt (μ5.1 0) t x) (by rw [va]; exact ga.1) (by rw [va]; exact ga.2)) (by rw [va]; exact hf3))
    refine lv_istore (lv' := [(4, .int x), (3, .int (μ.1 0 (sF k 11))), (2, .int (dgn (μ.1 0) k)), (0, .ref (E.1 231)), (1, .int (nI k))]) hx hb dL_reads_19 hl (by decide) rfl (fun ls hl => ?_)
    refine lv_iload_n hx hb dL_reads_21 rfl (lv_at hl 2 rfl) ?_
    refine lv_if_le (tgt := 49) hx hb dL_reads_22 (by decide) (fun _ => ?_) (fun c => absurd (by rw [c0]; decide) c)
    refine lv_iload hx hb dL_reads_49 (lv_at hl 0 rfl) ?_
    refine lv_aload_n hx hb dL_reads_51 rfl (lv_at hl 3 rfl) ?_
    refine lv_iload_n hx hb dL_reads_52 rfl (lv_at hl 4 rfl) ?_
    refine lv_bipush (v := 14) hx hb dL_reads_53 (by decide) ?_
    refine c_iV (v := (-200000)) (P := fun z => Same μ5 z) (⟨(a_s14 Same.rf h1b hN hk).1.trans ((ef 7 (by decide) (by decide)).trans j7), (a_s14 Same.rf h1b hN hk).2⟩) hw (run_V (As := [.int (nI k), .int 14]) (rest := [.int x]) (np := 2) hf hw (k_X7_sensorOf l E _ (nI k) 14) ⟨gl_V q199 q200 q201 q2 q202, by decide +kernel⟩ ⟨rfl, rfl, Nat.le_of_ble_eq_true rfl, Nat.le_of_ble_eq_true rfl⟩ (by decide) (c_O E _) rfl rfl hl.1 rfl (Nat.le_of_ble_eq_true rfl) dL_reads_55 ⟨Nat.zero_le _, Nat.zero_le _⟩) (fun μ6 H locs s6 hw => ?_)
    refine lv_icmp_lt (tgt := 73) hx hb dL_reads_58 (by decide) (fun c => absurd c (by rw [Int32.lt_iff_toInt_lt, show (-200000 : Int32).toInt = -200000 by decide]; omega)) (fun _ => ?_)
    refine lv_iload hx hb dL_reads_61 (lv_at hl 0 rfl) ?_
    refine lv_aload_n hx hb dL_reads_63 rfl (lv_at hl 3 rfl) ?_
    refine lv_iload_n hx hb dL_reads_64 rfl (lv_at hl 4 rfl) ?_
    refine lv_bipush (v := 15) hx hb dL_reads_65 (by decide) ?_
    refine c_iV (v := 850000) (P := fun z => Same μ5 z) (⟨(a_s15 s6 h1b hN hk).1.trans ((ef 8 (by decide) (by decide)).trans j8), (a_s15 s6 h1b hN hk).2⟩) hw (run_V (As := [.int (nI k), .int 15]) (rest := [.int x]) (np := 2) hf hw (k_X7_sensorOf l E _ (nI k) 15) ⟨gl_V q199 q200 q201 q2 q202, by decide +kernel⟩ ⟨rfl, rfl, Nat.le_of_ble_eq_true rfl, Nat.le_of_ble_eq_true rfl⟩ (by decide) (c_O E _) rfl rfl hl.1 rfl (Nat.le_of_ble_eq_true rfl) dL_reads_67 ⟨Nat.zero_le _, Nat.zero_le _⟩) (fun μ7 H locs s7 hw => ?_)
    refine lv_icmp_le (tgt := 77) hx hb dL_reads_70 (by decide) (fun _ => ?_) (fun c => absurd (by rw [Int32.le_iff_toInt_le, show (850000 : Int32).toInt = 850000 by decide]; omega : x ≤ 850000) c)
    refine lv_iconst (v := 0) hx hb dL_reads_77 (by decide) ?_
    refine lv_istore (lv' := [(5, .int 0), (4, .int x), (3, .int (μ.1 0 (sF k 11))), (2, .int (dgn (μ.1 0) k)), (0, .ref (E.1 231)), (1, .int (nI k))]) hx hb dL_reads_78 hl (by decide) rfl (fun ls hl => ?_)
    refine lv_aload_n hx hb dL_reads_80 rfl (lv_at hl 4 rfl) ?_
    refine lv_iload_n hx hb dL_reads_81 rfl (lv_at hl 5 rfl) ?_
    refine lv_iconst (v := 0) hx hb dL_reads_82 (by decide) ?_
    refine c_iV (v := x) (P := fun z => Same μ5 z) (⟨(a_rat (n := r + 1) s7 (by omega) (e11.trans (by rw [j11, nI_1])) (by omega) h1b hN hk).1.trans e19, (a_rat (n := r + 1) s7 (by omega) (e11.trans (by rw [j11, nI_1])) (by omega) h1b hN hk).2⟩) hw (run_V (As := [.int (nI k), .int 0]) (rest := []) (np := 2) hf hw (k_X7_readingAt l E _ (nI k) 0) ⟨gl_V q515 q516 q517 q2 q518, by decide +kernel⟩ ⟨rfl, rfl, Nat.le_of_ble_eq_true rfl, Nat.le_of_ble_eq_true rfl⟩ (by decide) (c_O E _) rfl rfl hl.1 rfl (Nat.le_of_ble_eq_true rfl) dL_reads_83 ⟨Nat.zero_le _, Nat.zero_le _⟩) (fun μ8 H locs s8 hw => ?_)
    refine lv_iload hx hb dL_reads_86 (lv_at hl 1 rfl) ?_
    refine lv_icmp_ne (tgt := 151) hx hb dL_reads_88 (by decide) (fun c => absurd rfl c) (fun _ => ?_)
    refine lv_aload_n hx hb dL_reads_91 rfl (lv_at hl 4 rfl) ?_
    refine lv_iload_n hx hb dL_reads_92 rfl (lv_at hl 5 rfl) ?_
    refine lv_bipush (v := 18) hx hb dL_reads_93 (by decide) ?_
    refine c_iV (v := μ.1 0 (sF k 11) + 1) (P := fun z => Same μ5 z) (⟨(a_s18 s8 h1b hN hk).1.trans e11, (a_s18 s8 h1b hN hk).2⟩) hw (run_V (As := [.int (nI k), .int 18]) (rest := []) (np := 2) hf hw (k_X7_sensorOf l E _ (nI k) 18) ⟨gl_V q199 q200 q201 q2 q202, by decide +kernel⟩ ⟨rfl, rfl, Nat.le_of_ble_eq_true rfl, Nat.le_of_ble_eq_true rfl⟩ (by decide) (c_O E _) rfl rfl hl.1 rfl (Nat.le_of_ble_eq_true rfl) dL_reads_95 ⟨Nat.zero_le _, Nat.zero_le _⟩) (fun μ9 H locs s9 hw => ?_)
    refine lv_iload_n hx hb dL_reads_98 rfl (lv_at hl 2 rfl) ?_
    refine lv_iconst (v := 1) hx hb dL_reads_99 (by decide) ?_
    refine lv_iadd hx hb dL_reads_100 ?_
    refine lv_icmp_ne (tgt := 151) hx hb dL_reads_101 (by decide) (fun c => absurd rfl c) (fun _ => ?_)
    refine lv_iload hx hb dL_reads_104 (lv_at hl 0 rfl) ?_
    refine lv_if_eq (tgt := 120) hx hb dL_reads_106 (by decide) (fun _ => ?_) (fun c => absurd (by decide) c)
    refine lv_aload_n hx hb dL_reads_120 rfl (lv_at hl 4 rfl) ?_
    refine lv_aload_n hx hb dL_reads_121 rfl (lv_at hl 4 rfl) ?_
    refine lv_iload_n hx hb dL_reads_122 rfl (lv_at hl 5 rfl) ?_
    refine lv_iconst (v := 0) hx hb dL_reads_123 (by decide) ?_
    refine c_iV (v := nI t) (P := fun z => Same μ5 z) (⟨(a_s0 s9 h1b hN hk).1.trans ((ef 0 (by decide) (by decide)).trans et), (a_s0 s9 h1b hN hk).2⟩) hw (run_V (As := [.int (nI k), .int 0]) (rest := [.ref (E.1 231)]) (np := 2) hf hw (k_X7_sensorOf l E _ (nI k) 0) ⟨gl_V q199 q200 q201 q2 q202, by decide +kernel⟩ ⟨rfl, rfl, Nat.le_of_ble_eq_true rfl, Nat.le_of_ble_eq_true rfl⟩ (by decide) (c_O E _) rfl rfl hl.1 rfl (Nat.le_of_ble_eq_true rfl) dL_reads_124 ⟨Nat.zero_le _, Nat.zero_le _⟩) (fun μ10 H locs s10 hw => ?_)
    refine lv_aload_n hx hb dL_reads_127 rfl (lv_at hl 4 rfl) ?_
    refine lv_aload_n hx hb dL_reads_128 rfl (lv_at hl 4 rfl) ?_
    refine lv_iload_n hx hb dL_reads_129 rfl (lv_at hl 5 rfl) ?_
    refine lv_iconst (v := 0) hx hb dL_reads_130 (by decide) ?_
    refine c_iV (v := nI t) (P := fun z => Same μ5 z) (⟨(a_s0 s10 h1b hN hk).1.trans ((ef 0 (by decide) (by decide)).trans et), (a_s0 s10 h1b hN hk).2⟩) hw (run_V (As := [.int (nI k), .int 0]) (rest := [.ref (E.1 231), .int (nI t), .ref (E.1 231)]) (np := 2) hf hw (k_X7_sensorOf l E _ (nI k) 0) ⟨gl_V q199 q200 q201 q2 q202, by decide +kernel⟩ ⟨rfl, rfl, Nat.le_of_ble_eq_true rfl, Nat.le_of_ble_eq_true rfl⟩ (by decide) (c_O E _) rfl rfl hl.1 rfl (Nat.le_of_ble_eq_true rfl) dL_reads_131 ⟨Nat.zero_le _, Nat.zero_le _⟩) (fun μ11 H locs s11 hw => ?_)
    refine lv_iload hx hb dL_reads_134 (lv_at hl 1 rfl) ?_
    refine c_iV (v := sp_X5_ratioAt (μ5.1 0) t x) (P := fun z => Same μ5 z) (a_ra (w := x) s11 g3 ht hz3.1 hz3.2.1) hw (run_V (As := [.int (nI t), .int x]) (rest := [.int (nI t), .ref (E.1 231)]) (np := 2) hf hw (k_X7_ratio l E _ (nI t) x) ⟨gl_V q168 q169 q170 q2 q171, by decide +kernel⟩ ⟨rfl, rfl, Nat.le_of_ble_eq_true rfl, Nat.le_of_ble_eq_true rfl⟩ (by decide) (c_O E _) rfl rfl hl.1 rfl (Nat.le_of_ble_eq_true rfl) dL_reads_136 ⟨Nat.zero_le _, Nat.zero_le _⟩) (fun μ12 H locs s12 hw => ?_)
    refine c_iV (v := x) (P := fun z => Same μ5 z) (⟨(a_iv (w := sp_X5_ratioAt (μ5.1 0) t x) s12 g3 ht rg3).1.trans fin, (a_iv (w := sp_X5_ratioAt (μ5.1 0) t x) s12 g3 ht rg3).2⟩) hw (run_V (As := [.int (nI t), .int (sp_X5_ratioAt (μ5.1 0) t x)]) (rest := []) (np := 2) hf hw (k_X7_inverse l E _ (nI t) (sp_X5_ratioAt (μ5.1 0) t x)) ⟨gl_V q187 q188 q189 q2 q190, by decide +kernel⟩ ⟨rfl, rfl, Nat.le_of_ble_eq_true rfl, Nat.le_of_ble_eq_true rfl⟩ (by decide) (c_O E _) rfl rfl hl.1 rfl (Nat.le_of_ble_eq_true rfl) dL_reads_139 ⟨Nat.zero_le _, Nat.zero_le _⟩) (fun μ13 H locs s13 hw => ?_)
    refine lv_iload hx hb dL_reads_142 (lv_at hl 1 rfl) ?_
    refine lv_icmp_ne (tgt := 151) hx hb dL_reads_144 (by decide) (fun c => absurd rfl c) (fun _ => ?_)
    refine lv_iconst (v := 1) hx hb dL_reads_147 (by decide) ?_
    refine lv_goto (tgt := 152) hx hb dL_reads_148 (by decide) ?_
    exact e_iP hf hr hlocks hw rfl (⟨rfl, by rw [s13.g]; exact g3, k3.ok.same s13, by rw [s13.g]; exact ey 2 (by decide)⟩) dL_reads_152
