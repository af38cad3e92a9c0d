/-! ===== the law's changes: what they answer, what the law keeps ===== -/
section OW
variable {p : Program} {l : Launch} {e : Env} {R : Room} {s : State} {m : MethodId} {args : Array Value} {below : List Frame} {meth : Method} {c : Code} {H : Heap} {locs : List Loc} {cells slots : Nat} {Q : State → Prop}
variable {pc : Nat} {ls : Array Slot} {rest st0 : List Value} {E : En} {μ : Mu}
theorem c_iW {a : Array Value} {RU : Int32 × Mu} {P : Int32 → Mu → Prop} (h : P RU.1 RU.2) (hw : Wk E μ s H locs) (hr : va_Run p l e R s m args below meth c H locs cells slots 0 0 (F0 m pc ls st0) rest ((va_Qi (fun r u => r = RU.1 ∧ u = RU.2) (fun u t => WdU E u t) (inE E)) a) (inE E))
    (kk : ∀ (r : Int32) (u : Mu) (H : Heap) (locs : List Loc), P r u → Wk E u s H locs → W p l e R s m args below meth c H locs cells slots Q (F0 m (pc + 3) ls (.int r :: rest))) : W p l e R s m args below meth c H locs cells slots Q (F0 m pc ls st0) :=
  c_i hw hr (fun H locs hw => kk _ _ H locs h hw)
end OW
section OP
variable {g : Nat → Int32} {μ u : Mu} {T N B k : Nat} {v w : Int32}
theorem gd_f (h : Gd g T N B) (hk : k < N) {f : Nat} (hf : f = 2 ∨ f = 4 ∨ f = 5 ∨ f = 16 ∨ f = 18) (h2 : f = 2 → 1000 ≤ v.toInt ∧ v.toInt ≤ 2000000) (h4 : f = 4 → -200000 ≤ v.toInt ∧ v.toInt ≤ 850000) (h16 : f = 16 → 0 ≤ v.toInt) (h18 : f = 18 → v = 0 ∨ v = 1) : Gd (ur g (sF k f) v) T N B := by
  obtain ⟨s1, s2, s3, s4, s5, s6, ⟨s7, s8, s9, s10⟩, s11, s12, s13⟩ := h.2.2.2.2.1 k hk
  have en : ∀ i, i ≠ f → ur g (sF k f) v (sF k i) = g (sF k i) := fun i hi => ur_n (by unfold sF; omega)
  refine gd_sen h (Nat.le_refl _) (fun y _ hy => ur_n (by unfold sF; omega)) ?_ hk
  unfold Sn
  rw [en 0 (by omega), en 1 (by omega), en 3 (by omega), en 6 (by omega), en 7 (by omega), en 8 (by omega), en 9 (by omega), en 10 (by omega), en 11 (by omega)]
  refine ⟨s1, s2, ?_, s4, ?_, s6, ⟨s7, s8, s9, s10⟩, s11, ?_, ?_⟩
  · by_cases c : f = 2
    · subst c; rw [ur_s]; exact h2 rfl
    · rw [en 2 (by omega)]; exact s3
  · by_cases c : f = 4
    · subst c; rw [ur_s]; exact h4 rfl
    · rw [en 4 (by omega)]; exact s5
  · by_cases c : f = 16
    · subst c; rw [ur_s]; exact h16 rfl
    · rw [en 16 (by omega)]; exact s12
  · by_cases c : f = 18
    · subst c; rw [ur_s]; exact h18 rfl
    · rw [en 18 (by omega)]; exact s13
theorem gd_s (h : Gd g T N B) {i : Nat} (hi : i < 4) (h0 : i = 0 → 10000 ≤ v.toInt ∧ v.toInt ≤ 1000000) (h1 : i = 1 ∨ i = 2 → 100 ≤ v.toInt ∧ v.toInt ≤ 5000) (h3 : i = 3 → 8 ≤ v.toInt ∧ v.toInt ≤ 24) : Gd (ur g (3 + i) v) T N B := by
  obtain ⟨s0, s1, s2, s3⟩ := h.2.2.1
  refine gd_set h (fun y hy => ur_n (by omega)) ?_
  rcases (show i = 0 ∨ i = 1 ∨ i = 2 ∨ i = 3 by omega) with rfl | rfl | rfl | rfl
  · exact ⟨by rw [show (3 : Nat) = 3 + 0 from rfl, ur_s]; exact h0 rfl, by rw [ur_n (by omega)]; exact s1, by rw [ur_n (by omega)]; exact s2, by rw [ur_n (by omega)]; exact s3⟩
  · exact ⟨by rw [ur_n (by omega)]; exact s0, by rw [show (4 : Nat) = 3 + 1 from rfl, ur_s]; exact h1 (Or.inl rfl), by rw [ur_n (by omega)]; exact s2, by rw [ur_n (by omega)]; exact s3⟩
  · exact ⟨by rw [ur_n (by omega)]; exact s0, by rw [ur_n (by omega)]; exact s1, by rw [show (5 : Nat) = 3 + 2 from rfl, ur_s]; exact h1 (Or.inr rfl), by rw [ur_n (by omega)]; exact s3⟩
  · exact ⟨by rw [ur_n (by omega)]; exact s0, by rw [ur_n (by omega)]; exact s1, by rw [ur_n (by omega)]; exact s2, by rw [show (6 : Nat) = 3 + 3 from rfl, ur_s]; exact h3 rfl⟩
/-- what the law has between two of its steps -/
def Lk (μ : Mu) (B : Nat) : Prop := Gd (μ.1 0) 2 4 B ∧ μ.1 0 2 = -1 ∧ Hok μ
theorem Lk.same (h : Lk μ B) (hs : Same μ u) : Lk u B := ⟨by rw [hs.g]; exact h.1, by rw [hs.g]; exact h.2.1, h.2.2.same hs⟩
theorem Lk.mono (h : Lk μ B) : Lk μ (B + 1) := ⟨gd_mono h.1 (Nat.le_succ _), h.2⟩
/-- one field of a sensor has changed -/
def Cf (μ u : Mu) (B k f : Nat) (v : Int32) : Prop := u.1 0 = ur (μ.1 0) (sF k f) v ∧ Lk u B
theorem cf_of (h : Lk μ B) (hs : Same μ u) {m : Mu} {f : Nat} (he : m.1 0 = ur (u.1 0) (sF k f) v) (hk : Hk m (u.1 0)) (hG : Gd (ur (μ.1 0) (sF k f) v) 2 4 B) : Cf μ m B k f v := by
  rw [hs.g] at he
  exact ⟨he, by rw [he]; exact hG, by rw [he, ur_n (by unfold sF; omega)]; exact h.2.1, hk.ok⟩
theorem a_bt (h : Lk μ B) (hs : Same μ u) (hk : k < 4) (hw : -200000 ≤ w.toInt ∧ w.toInt ≤ 850000) : ∃ t, t < 2 ∧ μ.1 0 (sF k 0) = nI t ∧ (((sp_X7_bath u (nI k) w).1 = -2000000002 ∧ ¬ (dI (μ.1 0) t 0 ≤ w.toInt ∧ w.toInt ≤ dI (μ.1 0) t 3) ∧ Same μ (sp_X7_bath u (nI k) w).2) ∨ ((sp_X7_bath u (nI k) w).1 = μ.1 0 (sF k 4) ∧ Cf μ (sp_X7_bath u (nI k) w).2 B k 4 w)) := by
  have hG := h.1
  obtain ⟨t, ht, et⟩ := (hG.2.2.2.2.1 k hk).1
  refine ⟨t, ht, et, ?_⟩
  have q := bt_v (μ := u) (T := 2) (N := 4) (t := t) (k := k) (w := w) (by rw [hs.g]; exact hG.2.1.1) (by decide) ht (by rw [hs.g]; exact hG.2.2.2.1 t ht) (by rw [hs.g]; exact et) (by rw [hs.g]; exact hG.2.1.2) (by decide) hk (h.2.2.same hs) hw
  rcases q with ⟨q1, q2⟩ | ⟨q1, q2, q3⟩
  · rw [hs.g] at q1
    rw [q2]
    exact Or.inl ⟨rfl, q1, hs⟩
  · exact Or.inr ⟨by rw [q1, hs.g], cf_of h hs q2 q3 (gd_f hG hk (by omega) (by omega) (fun _ => hw) (by omega) (by omega))⟩
theorem a_dr (h : Lk μ B) (hs : Same μ u) (hk : k < 4) (hv : -100000 ≤ v.toInt ∧ v.toInt ≤ 100000) : ((sp_X7_drift u (nI k) v).1 = -2000000002 ∧ Same μ (sp_X7_drift u (nI k) v).2) ∨ ((1000 ≤ (sp_X7_drift u (nI k) v).1.toInt ∧ (sp_X7_drift u (nI k) v).1.toInt ≤ 2000000) ∧ Cf μ (sp_X7_drift u (nI k) v).2 B k 2 (sp_X7_drift u (nI k) v).1) := by
  have hG := h.1
  have q := dr_v (μ := u) (N := 4) (k := k) (v := v) (by rw [hs.g]; exact hG.2.1.2) (by decide) hk (h.2.2.same hs) hv
  rcases q with q | ⟨b, hb, q1, q2, q3⟩
  · rw [q]
    exact Or.inl ⟨rfl, hs⟩
  · rw [q1]
    exact Or.inr ⟨hb, cf_of h hs q2 q3 (gd_f hG hk (by omega) (fun _ => hb) (by omega) (by omega) (by omega))⟩
theorem a_cu (h : Lk μ B) (hs : Same μ u) (hk : k < 4) {j : Nat} (hj : j < 2) : 0 ≤ (sp_X7_cut u (nI k) (nI j) (1 - (μ.1 0 (sF k 5) >>> (nI j &&& 31) &&& 1))).1.toInt ∧ ∃ b : Int32, Cf μ (sp_X7_cut u (nI k) (nI j) (1 - (μ.1 0 (sF k 5) >>> (nI j &&& 31) &&& 1))).2 B k 5 b := by
  have hG := h.1
  have q := ct_v (μ := u) (N := 4) (k := k) (j := j) (ws := 2 + k % 3) (by rw [hs.g]; exact hG.2.1.2) (by decide) hk (h.2.2.same hs) (by rw [hs.g]; exact (hG.2.2.2.2.1 k hk).2.1) (by omega) (by omega)
  obtain ⟨q1, b, q2, q3⟩ := q
  rw [hs.g] at q1
  have e : u.1 0 (sF k 5) = μ.1 0 (sF k 5) := by rw [hs.g]
  rw [e] at q2 q3
  exact ⟨q1, b, cf_of h hs q2 q3 (gd_f hG hk (by omega) (by omega) (by omega) (by omega) (by omega))⟩
theorem a_sr (h : Lk μ B) (hs : Same μ u) (hk : k < 4) (hv : v = 0 ∨ v = 1) : 0 ≤ (sp_X7_strain u (nI k) 2 v).1.toInt ∧ Cf μ (sp_X7_strain u (nI k) 2 v).2 B k 18 v := by
  have hG := h.1
  obtain ⟨q1, q2, q3⟩ := sr_v (μ := u) (N := 4) (k := k) (v := v) (i := 2) (by rw [hs.g]; exact hG.2.1.2) (by decide) hk (h.2.2.same hs) (by decide) (by rcases hv with rfl | rfl <;> decide)
  refine ⟨?_, cf_of h hs q2 q3 (gd_f hG hk (by omega) (by omega) (by omega) (by omega) (fun _ => hv))⟩
  have e : (sp_X7_strain u (nI k) 2 v).1 = μ.1 0 (sF k 18) := by rw [show (2 : Int32) = nI 2 from rfl, q1, hs.g]
  rw [e]
  rcases (hG.2.2.2.2.1 k hk).2.2.2.2.2.2.2.2.2 with q | q <;> (rw [q]; decide)
theorem a_sh (h : Lk μ B) (hs : Same μ u) (hk : k < 4) (hv : 0 ≤ v.toInt ∧ v.toInt ≤ 5000) : 0 ≤ (sp_X7_strain u (nI k) 0 v).1.toInt ∧ Cf μ (sp_X7_strain u (nI k) 0 v).2 B k 16 v := by
  have hG := h.1
  obtain ⟨q1, q2, q3⟩ := sr_v (μ := u) (N := 4) (k := k) (v := v) (i := 0) (by rw [hs.g]; exact hG.2.1.2) (by decide) hk (h.2.2.same hs) (by decide) ⟨by rw [Int32.lt_iff_toInt_lt, show (zl2.getD 0 0).toInt = 0 by decide]; omega, by rw [Int32.lt_iff_toInt_lt, show (zl3.getD 0 0).toInt = 5000 by decide]; omega⟩
  refine ⟨?_, cf_of h hs q2 q3 (gd_f hG hk (by omega) (by omega) (by omega) (fun _ => hv.1) (by omega))⟩
  have e : (sp_X7_strain u (nI k) 0 v).1 = μ.1 0 (sF k 16) := by rw [show (0 : Int32) = nI 0 from rfl, q1, hs.g]
  rw [e]
  exact (hG.2.2.2.2.1 k hk).2.2.2.2.2.2.2.2.1
theorem a_st (h : Lk μ B) (hs : Same μ u) {i : Nat} (hi : i < 4) (h0 : i = 0 → 10000 ≤ v.toInt ∧ v.toInt ≤ 1000000) (h1 : i = 1 ∨ i = 2 → 100 ≤ v.toInt ∧ v.toInt ≤ 5000) (h3 : i = 3 → 8 ≤ v.toInt ∧ v.toInt ≤ 24) : ¬ (sp_X7_set u (nI i) v).1 ≤ 0 ∧ Lk (sp_X7_set u (nI i) v).2 B := by
  have hG := h.1
  obtain ⟨s0, s1, s2, s3⟩ := hG.2.2.1
  have hv : ¬ v < zl0.getD i 0 ∧ ¬ zl1.getD i 0 < v := by
    rw [Int32.lt_iff_toInt_lt, Int32.lt_iff_toInt_lt]
    rcases (show i = 0 ∨ i = 1 ∨ i = 2 ∨ i = 3 by omega) with rfl | rfl | rfl | rfl
    · have := h0 rfl
      rw [show (zl0.getD 0 0).toInt = 10000 by decide, show (zl1.getD 0 0).toInt = 1000000 by decide]; omega
    · have := h1 (Or.inl rfl)
      rw [show (zl0.getD 1 0).toInt = 100 by decide, show (zl1.getD 1 0).toInt = 5000 by decide]; omega
    · have := h1 (Or.inr rfl)
      rw [show (zl0.getD 2 0).toInt = 100 by decide, show (zl1.getD 2 0).toInt = 5000 by decide]; omega
    · have := h3 rfl
      rw [show (zl0.getD 3 0).toInt = 8 by decide, show (zl1.getD 3 0).toInt = 24 by decide]; omega
  obtain ⟨q1, q2, q3⟩ := st_v (μ := u) (v := v) (h.2.2.same hs) (i := i) (by omega) hv
  rw [hs.g] at q1 q2
  refine ⟨?_, by rw [q2]; exact gd_s hG hi h0 h1 h3, by rw [q2, ur_n (by omega)]; exact h.2.1, q3.ok⟩
  rw [q1, Int32.le_iff_toInt_le, Int32.toInt_zero]
  rcases (show i = 0 ∨ i = 1 ∨ i = 2 ∨ i = 3 by omega) with rfl | rfl | rfl | rfl
  · show ¬ (μ.1 0 3).toInt ≤ 0; omega
  · show ¬ (μ.1 0 4).toInt ≤ 0; omega
  · show ¬ (μ.1 0 5).toInt ≤ 0; omega
  · show ¬ (μ.1 0 6).toInt ≤ 0; omega
theorem rem_n2 {z : Int32} {w : Nat} {d : Int32} (hd : d = nI w) (hz : 0 ≤ z.toInt) (h0 : 0 < w) (hw : w < 1000) : ∃ j : Nat, j < w ∧ z - z / d * d = nI j := by
  subst hd
  exact rem_nat hz h0 hw
/-- a rest added to something -/
theorem rem_a {a z d : Int32} {n : Int} (hd : d.toInt = n) (hz : 0 ≤ z.toInt) (h0 : 0 < n) (hn : n ≤ 1100000) (ha : -10000000 ≤ a.toInt ∧ a.toInt ≤ 10000000) : a.toInt ≤ (a + (z - z / d * d)).toInt ∧ (a + (z - z / d * d)).toInt ≤ a.toInt + n - 1 := by
  have b := rem_b (x := z) (d := d) hz (by omega)
  rw [Int32.toInt_add, I_of _ (by omega)]
  omega
theorem rem_s {a z d : Int32} {n : Int} (hd : d.toInt = n) (hz : 0 ≤ z.toInt) (h0 : 0 < n) (hn : n ≤ 1100000) (ha : -10000000 ≤ a.toInt ∧ a.toInt ≤ 10000000) : -a.toInt ≤ (z - z / d * d - a).toInt ∧ (z - z / d * d - a).toInt ≤ n - 1 - a.toInt := by
  have b := rem_b (x := z) (d := d) hz (by omega)
  rw [Int32.toInt_sub, I_of _ (by omega)]
  omega
end OP
