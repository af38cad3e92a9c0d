/-! ===== rows for the law's own methods: what a call answers, what it leaves ===== -/
abbrev MtP (l : Launch) (y : MethodName) (cc : ByteArray) (n : Nat) (ret : FieldType) (rm : Room) (av : List Value) (E : En) (μ : Mu) (P : Int32 → Mu → Prop) : Prop := Met l y (wsM y cc n (some ret)) rm (va_Pc av (WdU E μ)) (va_Qi P (fun u t => WdU E u t) (inE E)) 0 0 (inE E)
section LR
variable {p : Program} {l : Launch} {e : Env} {R : Room} {s : State} {m : MethodId} {args : Array Value} {below : List Frame} {meth : Method} {c : Code} {H : Heap} {locs : List Loc} {cells slots : Nat} {Q : State → Prop}
variable {cc : ByteArray} {pc nL : Nat} {ls : Array Slot} {rest st0 : List Value} {E : En} {μ : Mu} {own : String}
theorem e_iP (hf : CallFix p m c cc nL s args wsL_law own) {ty : FieldType} (hr : meth.sig.returnType = some ty) (hlocks : meth.locks = false) (hw : Wk E μ s H locs) {v : Int32} {P : Int32 → Mu → Prop} (hn : narrow ty (.int v) = .int v) (h : P v μ) (hdg : decode cc pc = .ok (.ireturn, 1)) : W p l e R s m args below meth c H locs 0 0 (MQ below (va_Qi P (fun u t => WdU E u t) (inE E)) args s 0 0 (inE E)) (F0 m pc ls [.int v]) :=
  W.zret (v := v) hf.1 hf.2.1 hr hn (fun t ht hW => ⟨⟨v, μ, rfl, h, by rw [ht]; exact hw.1, va_K.moved hW.alike hw.2.1, hw.2.2.1, by rw [ht]; exact (hw.2.2.2.2.kept hw.2.2.2.1.2.1).moved hW.alike⟩, hw.2.2.2.1.F ht⟩) hw.2.2.2.1.2.2 hdg
theorem c_iV {a : Array Value} {RU : Int32 × Mu} {v : Int32} {P : Mu → Prop} (h : RU.1 = v ∧ P RU.2) (hw : Wk E μ s H locs) (hr : va_Run p l e R s m args below meth c H locs cells slots 0 0 (F0 m pc ls st0) rest ((va_Qi (fun r u => r = RU.1 ∧ u = RU.2) (fun u t => WdU E u t) (inE E)) a) (inE E))
    (kk : ∀ (u : Mu) (H : Heap) (locs : List Loc), P u → Wk E u s H locs → W p l e R s m args below meth c H locs cells slots Q (F0 m (pc + 3) ls (.int v :: rest))) : W p l e R s m args below meth c H locs cells slots Q (F0 m pc ls st0) :=
  c_i hw hr (fun H locs hw => by rw [h.1]; exact kk _ H locs h.2 hw)
theorem c_iQ {a : Array Value} {P : Int32 → Mu → Prop} (hw : Wk E μ s H locs) (hr : va_Run p l e R s m args below meth c H locs cells slots 0 0 (F0 m pc ls st0) rest ((va_Qi P (fun u t => WdU E u t) (inE E)) a) (inE E))
    (kk : ∀ (r : Int32) (u : Mu) (H : Heap) (locs : List Loc), P r u → Wk E u s H locs → W p l e R s m args below meth c H locs cells slots Q (F0 m (pc + 3) ls (.int r :: rest))) : W p l e R s m args below meth c H locs cells slots Q (F0 m pc ls st0) :=
  va_calli hr hw.2.2.2.1 (fun _ _ h => h) (fun _ h => h) (fun r u t H1 locs1 ht hvm hp hB _ _ hS => kk r u H1 locs1 hp (Wk_back hw ht hB hS))
theorem c_i1 {a : Array Value} {P : Mu → Prop} (hw : Wk E μ s H locs) (hr : va_Run p l e R s m args below meth c H locs cells slots 0 0 (F0 m pc ls st0) rest ((va_Qi (fun r u => r = 1 ∧ P u) (fun u t => WdU E u t) (inE E)) a) (inE E))
    (kk : ∀ (u : Mu) (H : Heap) (locs : List Loc), P u → Wk E u s H locs → W p l e R s m args below meth c H locs cells slots Q (F0 m (pc + 3) ls (.int 1 :: rest))) : W p l e R s m args below meth c H locs cells slots Q (F0 m pc ls st0) :=
  c_iQ hw hr (fun r u H locs hp hw => by rw [hp.1]; exact kk u H locs hp.2 hw)
end LR
/-! the calls, as the law asks them: u is what μ has become by measuring -/
section AP
variable {μ u : Mu} {T N B t k n : Nat} {w a : Int32}
theorem a_c0 (hs : Same μ u) (h : Gd (μ.1 0) T N B) : (sp_X7_count u.1 0, u).1 = nI T ∧ Same μ (sp_X7_count u.1 0, u).2 := ⟨cn_0.trans ((congrFun hs.g 0).trans h.2.1.1), hs⟩
theorem a_c1 (hs : Same μ u) (h : Gd (μ.1 0) T N B) : (sp_X7_count u.1 1, u).1 = nI N ∧ Same μ (sp_X7_count u.1 1, u).2 := ⟨cn_1.trans ((congrFun hs.g 1).trans h.2.1.2), hs⟩
theorem a_c3 (hs : Same μ u) : (sp_X7_count u.1 3, u).1 = sp_X4_alarmsOn (μ.1 0) ∧ Same μ (sp_X7_count u.1 3, u).2 := ⟨cn_3.trans (by rw [hs.g]), hs⟩
theorem a_c4 (hs : Same μ u) : (sp_X7_count u.1 4, u).1 = sp_X4_allReadings (μ.1 0) ∧ Same μ (sp_X7_count u.1 4, u).2 := ⟨cn_4.trans (by rw [hs.g]), hs⟩
theorem a_c21 (hs : Same μ u) : (sp_X7_count u.1 21, u).1 = μ.1 0 4 ∧ Same μ (sp_X7_count u.1 21, u).2 := ⟨cn_21.trans (congrFun hs.g 4), hs⟩
theorem a_c22 (hs : Same μ u) : (sp_X7_count u.1 22, u).1 = μ.1 0 5 ∧ Same μ (sp_X7_count u.1 22, u).2 := ⟨cn_22.trans (congrFun hs.g 5), hs⟩
theorem a_c23 (hs : Same μ u) : (sp_X7_count u.1 23, u).1 = μ.1 0 6 ∧ Same μ (sp_X7_count u.1 23, u).2 := ⟨cn_23.trans (congrFun hs.g 6), hs⟩
theorem a_ct (hs : Same μ u) (h : Gd (μ.1 0) T N B) (ht : t < T) : (sp_X7_count u.1 (nI (10 + t)), u).1 = 4 ∧ Same μ (sp_X7_count u.1 (nI (10 + t)), u).2 := ⟨cn_t (T := T) (N := N) (B := B) (by rw [hs.g]; exact h) ht, hs⟩
theorem a_n0 (hs : Same μ u) (h : Gd (μ.1 0) T N B) (ht : t < T) (n : Nat) (hn : n < 4) : (sp_X7_nodeAt (u.1 0) (nI t) (nI n) 0, u).1 = μ.1 0 (tD t n) ∧ Same μ (sp_X7_nodeAt (u.1 0) (nI t) (nI n) 0, u).2 := ⟨by rw [hs.g]; exact nd_0 (n := 4) h.2.1.1 (by have := h.1.1; omega) ht (h.2.2.2.1 t ht) (by decide) hn, hs⟩
theorem a_n1 (hs : Same μ u) (h : Gd (μ.1 0) T N B) (ht : t < T) (n : Nat) (hn : n < 4) : (sp_X7_nodeAt (u.1 0) (nI t) (nI n) 1, u).1 = μ.1 0 (tR t n) ∧ Same μ (sp_X7_nodeAt (u.1 0) (nI t) (nI n) 1, u).2 := ⟨by rw [hs.g]; exact nd_1 (n := 4) h.2.1.1 (by have := h.1.1; omega) ht (h.2.2.2.1 t ht) (by decide) hn, hs⟩
theorem a_ra (hs : Same μ u) (h : Gd (μ.1 0) T N B) (ht : t < T) (h1 : dI (μ.1 0) t 0 ≤ w.toInt) (h3 : w.toInt ≤ dI (μ.1 0) t 3) : (sp_X7_ratio (u.1 0) (nI t) w, u).1 = sp_X5_ratioAt (μ.1 0) t w ∧ Same μ (sp_X7_ratio (u.1 0) (nI t) w, u).2 := ⟨by rw [hs.g]; exact ra_v h.2.1.1 (by have := h.1.1; omega) ht (h.2.2.2.1 t ht) h1 h3, hs⟩
theorem a_rn (hs : Same μ u) (h : Gd (μ.1 0) T N B) (ht : t < T) (hw : -200000 ≤ w.toInt ∧ w.toInt ≤ 850000) (h1 : ¬ (dI (μ.1 0) t 0 ≤ w.toInt ∧ w.toInt ≤ dI (μ.1 0) t 3)) : (sp_X7_ratio (u.1 0) (nI t) w, u).1 = -2000000004 ∧ Same μ (sp_X7_ratio (u.1 0) (nI t) w, u).2 := ⟨by rw [hs.g]; exact ra_no h.2.1.1 (by have := h.1.1; omega) ht (h.2.2.2.1 t ht) hw h1, hs⟩
theorem a_iv (hs : Same μ u) (h : Gd (μ.1 0) T N B) (ht : t < T) (hr : 1 ≤ w.toInt ∧ w.toInt ≤ 10000000) : (sp_X7_inverse (u.1 0) (nI t) w, u).1 = sp_X5_temperatureFor (μ.1 0) t w.toInt64 ∧ Same μ (sp_X7_inverse (u.1 0) (nI t) w, u).2 := ⟨by rw [hs.g]; exact in_v h.2.1.1 (by have := h.1.1; omega) ht hr, hs⟩
theorem a_s13 (hs : Same μ u) (h : Gd (μ.1 0) T N B) (hk : k < N) : (sp_X7_sensorOf (u.1 0) (nI k) 13, u).1 = nI (k % 3 * 10 + k / 3) ∧ Same μ (sp_X7_sensorOf (u.1 0) (nI k) 13, u).2 := by
  have h4 := h.1.2
  refine ⟨?_, hs⟩
  show sp_X7_sensorOf (u.1 0) (nI k) 13 = _
  rw [hs.g, so_13 (p := plc k) h.2.1.2 (by omega) hk (h.2.2.2.2.1 k hk).2.2.2.2.2.1 (by unfold plc; omega)]
  congr 1
  unfold plc
  omega
theorem a_s11 (hs : Same μ u) (h1 : μ.1 0 1 = nI N) (hN : N ≤ 6) (hk : k < N) : (sp_X7_sensorOf (u.1 0) (nI k) 11, u).1 = μ.1 0 (sF k 18) ∧ Same μ (sp_X7_sensorOf (u.1 0) (nI k) 11, u).2 := ⟨by rw [hs.g]; exact so_11 h1 hN hk, hs⟩
theorem a_sl (hs : Same μ u) (h : Gd (μ.1 0) T N B) (hk : k < N) : (sp_X7_slotAt (u.1 0) (nI (k % 3)) (nI (k / 3)), u).1 = nI k ∧ Same μ (sp_X7_slotAt (u.1 0) (nI (k % 3)) (nI (k / 3)), u).2 := ⟨by rw [hs.g]; exact sl_k h hk, hs⟩
theorem a_sw {j ws : Nat} (hs : Same μ u) (h1 : μ.1 0 1 = nI N) (hN : N ≤ 6) (hk : k < N) (hw : μ.1 0 (sF k 1) = nI ws) (hw4 : ws ≤ 4) (hj : j < ws) : (sp_X7_sensorOf (u.1 0) (nI k) (nI (5 + j)), u).1 = μ.1 0 (sF k (12 + j)) ∧ Same μ (sp_X7_sensorOf (u.1 0) (nI k) (nI (5 + j)), u).2 := ⟨by rw [hs.g]; exact so_l h1 hN hk hw hw4 hj, hs⟩
theorem a_k0 (hs : Same μ u) (h1 : μ.1 0 1 = nI N) (hN : N ≤ 6) (hk : k < N) (hc : 100 ≤ a.toInt ∧ a.toInt ≤ 5000) : (sp_X7_counts u (nI k) a 0 0).1 = (one (μ.1 0) k a.toInt64).toInt32 ∧ Same μ (sp_X7_counts u (nI k) a 0 0).2 := by
  obtain ⟨e1, e2⟩ := ct_0 (μ := u) (by rw [hs.g]; exact h1) hN hk hc
  exact ⟨by rw [e1, hs.g], hs.tr e2⟩
theorem a_k1 (hs : Same μ u) (h1 : μ.1 0 1 = nI N) (hN : N ≤ 6) (hk : k < N) (hc : 100 ≤ a.toInt ∧ a.toInt ≤ 5000) : (sp_X7_counts u (nI k) a 0 1).1 = (oth (μ.1 0) k a.toInt64).toInt32 ∧ Same μ (sp_X7_counts u (nI k) a 0 1).2 := by
  obtain ⟨e1, e2⟩ := ct_1 (μ := u) (by rw [hs.g]; exact h1) hN hk hc
  exact ⟨by rw [e1, hs.g], hs.tr e2⟩
theorem a_k2 (hs : Same μ u) (h1 : μ.1 0 1 = nI N) (hN : N ≤ 6) (hk : k < N) (hc : 100 ≤ a.toInt ∧ a.toInt ≤ 5000) : (sp_X7_counts u (nI k) a 0 2).1 = ((one (μ.1 0) k a.toInt64 - oth (μ.1 0) k a.toInt64) / 2).toInt32 ∧ Same μ (sp_X7_counts u (nI k) a 0 2).2 := by
  obtain ⟨e1, e2⟩ := ct_2 (μ := u) (by rw [hs.g]; exact h1) hN hk hc
  exact ⟨by rw [e1, hs.g], hs.tr e2⟩
theorem a_o0 (hs : Same μ u) (h1 : μ.1 0 1 = nI N) (hN : N ≤ 6) (hk : k < N) : (sp_X7_ohms u (nI k) 0).1 = (htq (μ.1 0) k (cur1 (μ.1 0)).toInt64).toInt32 ∧ Same μ (sp_X7_ohms u (nI k) 0).2 := by
  obtain ⟨e1, e2⟩ := oh_0 (μ := u) (by rw [hs.g]; exact h1) hN hk
  exact ⟨by rw [e1, hs.g], hs.tr e2⟩
theorem a_o2 (hs : Same μ u) (h1 : μ.1 0 1 = nI N) (hN : N ≤ 6) (hk : k < N) : (sp_X7_ohms u (nI k) 2).1 = (lpo (μ.1 0) k (cur1 (μ.1 0)).toInt64).toInt32 ∧ Same μ (sp_X7_ohms u (nI k) 2).2 := by
  obtain ⟨e1, e2⟩ := oh_2 (μ := u) (by rw [hs.g]; exact h1) hN hk
  exact ⟨by rw [e1, hs.g], hs.tr e2⟩
theorem a_o3 (hs : Same μ u) (h1 : μ.1 0 1 = nI N) (hN : N ≤ 6) (hk : k < N) : (sp_X7_ohms u (nI k) 3).1 = (cps (μ.1 0) k (cur1 (μ.1 0)).toInt64).toInt32 ∧ Same μ (sp_X7_ohms u (nI k) 3).2 := by
  obtain ⟨e1, e2⟩ := oh_3 (μ := u) (by rw [hs.g]; exact h1) hN hk
  exact ⟨by rw [e1, hs.g], hs.tr e2⟩
theorem a_o5 (hs : Same μ u) (h1 : μ.1 0 1 = nI N) (hN : N ≤ 6) (hk : k < N) : (sp_X7_ohms u (nI k) 5).1 = (wop (μ.1 0) k).toInt32 ∧ Same μ (sp_X7_ohms u (nI k) 5).2 := by
  obtain ⟨e1, e2⟩ := oh_5 (μ := u) (by rw [hs.g]; exact h1) hN hk
  exact ⟨by rw [e1, hs.g], hs.tr e2⟩
theorem a_dg (hs : Same μ u) (h1 : μ.1 0 1 = nI N) (hN : N ≤ 6) (hk : k < N) : (sp_X7_diagnosis u (nI k)).1 = dgn (μ.1 0) k ∧ Same μ (sp_X7_diagnosis u (nI k)).2 := by
  obtain ⟨e1, e2⟩ := dg_v (μ := u) (by rw [hs.g]; exact h1) hN hk
  exact ⟨by rw [e1, hs.g], hs.tr e2⟩
theorem a_rat (hs : Same μ u) (hr : 0 < n) (h11 : μ.1 0 (sF k 11) = nI n) (hn : n < 1000) (h1 : μ.1 0 1 = nI N) (hN : N ≤ 6) (hk : k < N) : (sp_X7_readingAt (u.1 0) (nI k) 0, u).1 = μ.1 0 (sF k 19) ∧ Same μ (sp_X7_readingAt (u.1 0) (nI k) 0, u).2 := by
  refine ⟨?_, hs⟩
  show sp_X7_readingAt (u.1 0) (nI k) 0 = _
  rw [hs.g]
  unfold sp_X7_readingAt
  refine (oc_some (sen_at h1 hN hk)).trans ?_
  have e : ¬ sp_X3_keptReadings (μ.1 0) k ≤ 0 := by
    unfold sp_X3_keptReadings
    rw [h11]
    rcases mn_c (nI n) 9 with q | q
    · rw [q]; exact nI_nle hr (by omega)
    · rw [q]; decide
  rw [if_pos (by decide), if_neg e]
  unfold sp_X3_reading
  rw [if_neg (by decide), if_neg (by decide)]
  rfl
theorem a_s0 (hs : Same μ u) (h1 : μ.1 0 1 = nI N) (hN : N ≤ 6) (hk : k < N) : (sp_X7_sensorOf (u.1 0) (nI k) 0, u).1 = μ.1 0 (sF k 0) ∧ Same μ (sp_X7_sensorOf (u.1 0) (nI k) 0, u).2 := ⟨by rw [hs.g]; exact so_0 h1 hN hk, hs⟩
theorem a_s1 (hs : Same μ u) (h1 : μ.1 0 1 = nI N) (hN : N ≤ 6) (hk : k < N) : (sp_X7_sensorOf (u.1 0) (nI k) 1, u).1 = μ.1 0 (sF k 1) ∧ Same μ (sp_X7_sensorOf (u.1 0) (nI k) 1, u).2 := ⟨by rw [hs.g]; exact so_1 h1 hN hk, hs⟩
theorem a_s2 (hs : Same μ u) (h1 : μ.1 0 1 = nI N) (hN : N ≤ 6) (hk : k < N) : (sp_X7_sensorOf (u.1 0) (nI k) 2, u).1 = μ.1 0 (sF k 2) ∧ Same μ (sp_X7_sensorOf (u.1 0) (nI k) 2, u).2 := ⟨by rw [hs.g]; exact so_2 h1 hN hk, hs⟩
theorem a_s3 (hs : Same μ u) (h1 : μ.1 0 1 = nI N) (hN : N ≤ 6) (hk : k < N) : (sp_X7_sensorOf (u.1 0) (nI k) 3, u).1 = μ.1 0 (sF k 3) ∧ Same μ (sp_X7_sensorOf (u.1 0) (nI k) 3, u).2 := ⟨by rw [hs.g]; exact so_3 h1 hN hk, hs⟩
theorem a_s4 (hs : Same μ u) (h1 : μ.1 0 1 = nI N) (hN : N ≤ 6) (hk : k < N) : (sp_X7_sensorOf (u.1 0) (nI k) 4, u).1 = μ.1 0 (sF k 4) ∧ Same μ (sp_X7_sensorOf (u.1 0) (nI k) 4, u).2 := ⟨by rw [hs.g]; exact so_4 h1 hN hk, hs⟩
theorem a_s12 (hs : Same μ u) (h1 : μ.1 0 1 = nI N) (hN : N ≤ 6) (hk : k < N) : (sp_X7_sensorOf (u.1 0) (nI k) 12, u).1 = μ.1 0 (sF k 5) ∧ Same μ (sp_X7_sensorOf (u.1 0) (nI k) 12, u).2 := ⟨by rw [hs.g]; exact so_12 h1 hN hk, hs⟩
theorem a_s14 (hs : Same μ u) (h1 : μ.1 0 1 = nI N) (hN : N ≤ 6) (hk : k < N) : (sp_X7_sensorOf (u.1 0) (nI k) 14, u).1 = μ.1 0 (sF k 7) ∧ Same μ (sp_X7_sensorOf (u.1 0) (nI k) 14, u).2 := ⟨by rw [hs.g]; exact so_14 h1 hN hk, hs⟩
theorem a_s15 (hs : Same μ u) (h1 : μ.1 0 1 = nI N) (hN : N ≤ 6) (hk : k < N) : (sp_X7_sensorOf (u.1 0) (nI k) 15, u).1 = μ.1 0 (sF k 8) ∧ Same μ (sp_X7_sensorOf (u.1 0) (nI k) 15, u).2 := ⟨by rw [hs.g]; exact so_15 h1 hN hk, hs⟩
theorem a_s17 (hs : Same μ u) (h1 : μ.1 0 1 = nI N) (hN : N ≤ 6) (hk : k < N) : (sp_X7_sensorOf (u.1 0) (nI k) 17, u).1 = μ.1 0 (sF k 10) ∧ Same μ (sp_X7_sensorOf (u.1 0) (nI k) 17, u).2 := ⟨by rw [hs.g]; exact so_17 h1 hN hk, hs⟩
theorem a_s18 (hs : Same μ u) (h1 : μ.1 0 1 = nI N) (hN : N ≤ 6) (hk : k < N) : (sp_X7_sensorOf (u.1 0) (nI k) 18, u).1 = μ.1 0 (sF k 11) ∧ Same μ (sp_X7_sensorOf (u.1 0) (nI k) 18, u).2 := ⟨by rw [hs.g]; exact so_18 h1 hN hk, hs⟩
end AP
