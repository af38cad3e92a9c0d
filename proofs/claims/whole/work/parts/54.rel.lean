/-! ===== the relation of a state of the class and a row of the reference ===== -/
def ph (f : Nat) : Nat := if f < 5 then f else if f < 12 then f + 7 else f - 7
theorem ph_lt {f : Nat} (h : f < 19) : ph f < 19 := by
  unfold ph
  split
  · omega
  · split <;> omega
theorem ph_ij {f f' : Nat} (h : f < 19) (h' : f' < 19) (e : ph f = ph f') : f = f' := by
  unfold ph at e
  by_cases a : f < 5
  · rw [if_pos a] at e
    by_cases b : f' < 5
    · rw [if_pos b] at e; exact e
    · rw [if_neg b] at e
      by_cases c : f' < 12
      · rw [if_pos c] at e; omega
      · rw [if_neg c] at e; omega
  · rw [if_neg a] at e
    by_cases b : f' < 5
    · rw [if_pos b] at e
      by_cases c : f < 12
      · rw [if_pos c] at e; omega
      · rw [if_neg c] at e; omega
    · rw [if_neg b] at e
      by_cases c : f < 12
      · rw [if_pos c] at e
        by_cases d : f' < 12
        · rw [if_pos d] at e; omega
        · rw [if_neg d] at e; omega
      · rw [if_neg c] at e
        by_cases d : f' < 12
        · rw [if_pos d] at e; omega
        · rw [if_neg d] at e; omega
def SmN (g s : Nat → Int32) (n : Nat) : Prop := ∀ f, f < 19 → f ≠ 6 → g (85 + 28 * n + f) = s (85 + 29 * n + ph f)
def SmL (B : Nat) (g s : Nat → Int32) (n : Nat) : Prop := ∃ r, r ≤ B ∧ g (85 + 28 * n + 11) = nI r ∧ s (85 + 29 * n + 19) = nI (min r 9) ∧ ∀ i, i < min r 9 → g (85 + 28 * n + (19 + i)) = s (85 + 29 * n + (19 + min r 9 - i))
abbrev cS (s : Nat → Int32) : Nat := (s 1).toNatClampNeg
def RGS (s : Nat → Int32) : Prop := RG s ∧ ∀ n, n < cS s → RS s n
def DsP (s : Nat → Int32) : Prop := ∀ n n', n < cS s → n' < n → s (85 + 29 * n + 13) = s (85 + 29 * n' + 13) → s (85 + 29 * n + 13) = -1
def NoN (g : Nat → Int32) (n : Nat) : Prop := (∀ f, f < 19 → f ≠ 6 → g (85 + 28 * n + f) = 0) ∧ g (85 + 28 * n + 6) = -1
def Brk (s : Nat → Int32) (n : Nat) : Prop := ni 16 (s (85 + 29 * n + 12)) ∧ ni 2 (s (85 + 29 * n + 17))
def BdS (s : Nat → Int32) : Prop := (∀ k, k < 7 → ¬ s (2 + k) ≤ -2000000001) ∧ ∀ n, n < 6 → (∀ f, f < 18 → ¬ s (85 + 29 * n + f) ≤ -2000000001) ∧ Brk s n
def SimS (B : Nat) (g s : Nat → Int32) : Prop := SimT g s ∧ PlO (g 2) (s 9) ∧ (∀ n, n < 6 → SmN g s n ∧ SmL B g s n) ∧ (∀ n, n < cS s → PlO (g (85 + 28 * n + 6)) (s (85 + 29 * n + 13))) ∧ (∀ n, n < 6 → cS s ≤ n → NoN g n) ∧ (∀ t, t < 3 → (s 0).toNatClampNeg ≤ t → s (10 + 25 * t) = 0) ∧ RGS s ∧ ni 10 (s 8) ∧ DsP s ∧ BdS s
theorem simS_RI {B : Nat} {g s : Nat → Int32} (h : SimS B g s) : RI s := h.2.2.2.2.2.2.1.1.1
theorem simS_c {B : Nat} {g s : Nat → Int32} (h : SimS B g s) : cS s < 7 := (simS_RI h).2.1.2
theorem simS_N {B : Nat} {g s : Nat → Int32} (h : SimS B g s) {n : Nat} (hn : n < cS s) : SimN g s n := by
  have c := simS_c h
  have hN := (h.2.2.1 n (by omega)).1
  exact ⟨fun f hf => by rw [show sF n f = 85 + 28 * n + f from rfl, hN f (by omega) (by omega), show ph f = f from if_pos hf], hN 5 (by omega) (by omega), h.2.2.2.1 n hn, fun f hf => by rw [show sF n (7 + f) = 85 + 28 * n + (7 + f) from rfl, hN (7 + f) (by omega) (by omega), show ph (7 + f) = 14 + f by unfold ph; rw [if_neg (by omega), if_pos (by omega)]; omega], fun k hk => by rw [show sF n (12 + k) = 85 + 28 * n + (12 + k) from rfl, hN (12 + k) (by omega) (by omega), show ph (12 + k) = 5 + k by unfold ph; rw [if_neg (by omega), if_neg (by omega)]; omega], fun k hk => by rw [show sF n (16 + k) = 85 + 28 * n + (16 + k) from rfl, hN (16 + k) (by omega) (by omega), show ph (16 + k) = 9 + k by unfold ph; rw [if_neg (by omega), if_neg (by omega)]; omega]⟩
def mk8 (s : Nat → Int32) : Mu := (fun _ => s, fun _ _ => 0, fun _ => 0)
theorem mk_up {s : Nat → Int32} {k : Nat} {v : Int32} : (pM (mk8 s) 8 k v).1 8 = ur s k v := row_s _ _ _ _
theorem rgs_eq {s s' : Nat → Int32} (h : RGS s) (e : ∀ y, y < 259 → s' y = s y) : RGS s' := rga_eq (m := mk8 s) (m' := mk8 s') h e
theorem rgs_up {s : Nat → Int32} {k : Nat} {v : Int32} (h : RGA (pM (mk8 s) 8 k v)) : RGS (ur s k v) := by
  unfold RGA at h
  rw [mk_up] at h
  exact h
/-- rows that agree where they count -/
theorem brk_eq {s s' : Nat → Int32} {n : Nat} (h : Brk s n) (e1 : s' (85 + 29 * n + 12) = s (85 + 29 * n + 12)) (e2 : s' (85 + 29 * n + 17) = s (85 + 29 * n + 17)) : Brk s' n := by
  unfold Brk
  rw [e1, e2]
  exact h
theorem simS_eq {B : Nat} {g s g' s' : Nat → Int32} (h : SimS B g s) (eg : ∀ y, y < 253 → g' y = g y) (es : ∀ y, y < 259 → s' y = s y) : SimS B g' s' := by
  have cc : cS s' = cS s := by show (s' 1).toNatClampNeg = _; rw [es 1 (by omega)]
  have c := simS_c h
  obtain ⟨hT, hP, hN, hpl, hno, hnt, hR, hm, hd, hb⟩ := h
  refine ⟨⟨?_, ?_, fun k hk => ?_, fun k hk => ?_⟩, ?_, fun n hn => ⟨fun f hf h6 => ?_, ?_⟩, fun n hn => ?_, fun n hn hc => ⟨fun f hf h6 => ?_, ?_⟩, fun t ht hc => ?_, rgs_eq hR es, ?_, fun n n' hn hn' e => ?_, fun k hk => ?_, fun n hn => ⟨fun f hf => ?_, ?_⟩⟩
  · rw [eg 0 (by omega), es 0 (by omega)]; exact hT.1
  · rw [eg 1 (by omega), es 1 (by omega)]; exact hT.2.1
  · rw [eg _ (by omega), es _ (by omega)]; exact hT.2.2.1 k hk
  · rw [eg _ (by omega), es _ (by omega)]; exact hT.2.2.2 k hk
  · rw [eg _ (by omega), es _ (by omega)]; exact hP
  · have := ph_lt hf
    rw [eg _ (by omega), es _ (by omega)]; exact (hN n hn).1 f hf h6
  · obtain ⟨r, a1, a2, a3, a4⟩ := (hN n hn).2
    refine ⟨r, a1, ?_, ?_, fun i hi => ?_⟩
    · rw [eg _ (by omega)]; exact a2
    · rw [es _ (by omega)]; exact a3
    · rw [eg _ (by omega), es _ (by omega)]; exact a4 i hi
  · rw [cc] at hn
    rw [eg _ (by omega), es _ (by omega)]; exact hpl n hn
  · rw [cc] at hc
    rw [eg _ (by omega)]; exact (hno n hn hc).1 f hf h6
  · rw [cc] at hc
    rw [eg _ (by omega)]; exact (hno n hn hc).2
  · rw [es 0 (by omega)] at hc
    rw [es _ (by omega)]; exact hnt t ht hc
  · rw [es _ (by omega)]; exact hm
  · rw [cc] at hn
    rw [es _ (by omega), es _ (by omega)] at e
    rw [es _ (by omega)]; exact hd n n' hn hn' e
  · rw [es _ (by omega)]; exact hb.1 k hk
  · rw [es _ (by omega)]; exact (hb.2 n hn).1 f hf
  · exact brk_eq (hb.2 n hn).2 (es _ (by omega)) (es _ (by omega))
theorem simS_mono {B B' : Nat} {g s : Nat → Int32} (h : SimS B g s) (hB : B ≤ B') : SimS B' g s := by
  obtain ⟨hT, hP, hN, hx⟩ := h
  refine ⟨hT, hP, fun n hn => ⟨(hN n hn).1, ?_⟩, hx⟩
  obtain ⟨r, a1, a2⟩ := (hN n hn).2
  exact ⟨r, by omega, a2⟩
/-- one sensor changes -/
theorem simS_1 {B B' n : Nat} {g s g' s' : Nat → Int32} (h : SimS B g s) (hB : B ≤ B') (hn : n < cS s) (eg : ∀ y, y < 85 → g' y = g y) (es : ∀ y, y < 85 → s' y = s y) (eN : ∀ n', n' < 6 → n' ≠ n → (∀ f, f < 28 → g' (85 + 28 * n' + f) = g (85 + 28 * n' + f)) ∧ ∀ f, f < 29 → s' (85 + 29 * n' + f) = s (85 + 29 * n' + f)) (h1 : SmN g' s' n) (h2 : SmL B' g' s' n) (h3 : PlO (g' (85 + 28 * n + 6)) (s' (85 + 29 * n + 13))) (hR' : RGS s') (h4 : ∀ n', n' < cS s → n' ≠ n → s' (85 + 29 * n + 13) = s (85 + 29 * n' + 13) → s' (85 + 29 * n + 13) = -1) (h5 : ∀ f, f < 18 → ¬ s' (85 + 29 * n + f) ≤ -2000000001) (h7 : Brk s' n) : SimS B' g' s' := by
  have cc : cS s' = cS s := by show (s' 1).toNatClampNeg = _; rw [es 1 (by omega)]
  have c := simS_c h
  obtain ⟨hT, hP, hN, hpl, hno, hnt, hR, hm, hd, hb⟩ := h
  refine ⟨⟨?_, ?_, fun k hk => ?_, fun k hk => ?_⟩, ?_, fun m hm => ?_, fun m hm => ?_, fun m hm hc => ⟨fun f hf h6 => ?_, ?_⟩, fun t ht hc => ?_, hR', ?_, fun m m' hm hm' e => ?_, fun k hk => ?_, fun m hm => ⟨fun f hf => ?_, ?_⟩⟩
  · rw [eg 0 (by omega), es 0 (by omega)]; exact hT.1
  · rw [eg 1 (by omega), es 1 (by omega)]; exact hT.2.1
  · rw [eg _ (by omega), es _ (by omega)]; exact hT.2.2.1 k hk
  · rw [eg _ (by omega), es _ (by omega)]; exact hT.2.2.2 k hk
  · rw [eg _ (by omega), es _ (by omega)]; exact hP
  · by_cases d : m = n
    · subst d; exact ⟨h1, h2⟩
    · obtain ⟨e1, e2⟩ := eN m hm d
      refine ⟨fun f hf h6 => ?_, ?_⟩
      · have := ph_lt hf
        rw [e1 _ (by omega), e2 _ (by omega)]; exact (hN m hm).1 f hf h6
      · obtain ⟨r, a1, a2, a3, a4⟩ := (hN m hm).2
        refine ⟨r, by omega, ?_, ?_, fun i hi => ?_⟩
        · rw [e1 _ (by omega)]; exact a2
        · rw [e2 _ (by omega)]; exact a3
        · rw [e1 _ (by omega), e2 _ (by omega)]; exact a4 i hi
  · rw [cc] at hm
    by_cases d : m = n
    · subst d; exact h3
    · obtain ⟨e1, e2⟩ := eN m (by omega) d
      rw [e1 _ (by omega), e2 _ (by omega)]; exact hpl m hm
  · rw [cc] at hc
    obtain ⟨e1, e2⟩ := eN m hm (by omega)
    rw [e1 _ (by omega)]; exact (hno m hm hc).1 f hf h6
  · rw [cc] at hc
    obtain ⟨e1, e2⟩ := eN m hm (by omega)
    rw [e1 _ (by omega)]; exact (hno m hm hc).2
  · rw [es 0 (by omega)] at hc
    rw [es _ (by omega)]; exact hnt t ht hc
  · rw [es _ (by omega)]; exact hm
  · rw [cc] at hm
    by_cases d : m = n
    · subst d
      obtain ⟨-, e2⟩ := eN m' (by omega) (by omega)
      rw [e2 _ (by omega)] at e
      exact h4 m' (by omega) (by omega) e
    · obtain ⟨-, e2⟩ := eN m (by omega) d
      by_cases d' : m' = n
      · subst d'
        rw [e2 _ (by omega)] at e ⊢
        rw [e]
        exact h4 m hm d e.symm
      · obtain ⟨-, e2'⟩ := eN m' (by omega) d'
        rw [e2 _ (by omega), e2' _ (by omega)] at e
        rw [e2 _ (by omega)]
        exact hd m m' hm hm' e
  · rw [es _ (by omega)]; exact hb.1 k hk
  · by_cases d : m = n
    · subst d; exact h5 f hf
    · obtain ⟨-, e2⟩ := eN m hm d
      rw [e2 _ (by omega)]; exact (hb.2 m hm).1 f hf
  · by_cases d : m = n
    · subst d; exact h7
    · obtain ⟨-, e2⟩ := eN m hm d
      exact brk_eq (hb.2 m hm).2 (e2 _ (by omega)) (e2 _ (by omega))
/-- a field that is told alike -/
theorem simS_f {B n f : Nat} {g s : Nat → Int32} {v : Int32} (h : SimS B g s) (hn : n < cS s) (hf : f < 19) (h6 : f ≠ 6) (h11 : f ≠ 11) (hv : ¬ v ≤ -2000000001) (h16 : f = 5 → ni 16 v) (h17 : f = 10 → ni 2 v) (hR : RGS (ur s (85 + 29 * n + ph f) v)) : SimS B (ur g (85 + 28 * n + f) v) (ur s (85 + 29 * n + ph f) v) := by
  have c := simS_c h
  have p := ph_lt hf
  have p13 : ph f ≠ 13 := fun e => h6 (ph_ij hf (by omega) (e.trans (show 13 = ph 6 from rfl)))
  refine simS_1 h (Nat.le_refl _) hn (fun y hy => ur_n (by omega)) (fun y hy => ur_n (by omega)) (fun n' hn' hne => ⟨fun f' hf' => ur_n (by omega), fun f' hf' => ur_n (by omega)⟩) (fun f' hf' h6' => ?_) ?_ ?_ hR (fun n' hn' hne e => ?_) (fun f' hf' => ?_) ?_
  · by_cases d : f' = f
    · subst d; rw [ur_s, ur_s]
    · have p' := ph_lt hf'
      have : ph f' ≠ ph f := fun e => d (ph_ij hf' hf e)
      rw [ur_n (by omega), ur_n (by omega)]; exact (h.2.2.1 n (by omega)).1 f' hf' h6'
  · obtain ⟨r, a1, a2, a3, a4⟩ := (h.2.2.1 n (by omega)).2
    refine ⟨r, a1, ?_, ?_, fun i hi => ?_⟩
    · rw [ur_n (by omega)]; exact a2
    · rw [ur_n (by omega)]; exact a3
    · rw [ur_n (by omega), ur_n (by omega)]; exact a4 i hi
  · rw [ur_n (by omega), ur_n (by omega)]; exact h.2.2.2.1 n hn
  · rw [ur_n (by omega)] at e ⊢
    have hd := h.2.2.2.2.2.2.2.2.1
    by_cases l : n' < n
    · exact hd n n' hn l e
    · rw [e]; exact hd n' n hn' (by omega) e.symm
  · by_cases d : f' = ph f
    · subst d; rw [ur_s]; exact hv
    · rw [ur_n (by omega)]; exact (h.2.2.2.2.2.2.2.2.2.2 n (by omega)).1 f' hf'
  · have hb := (h.2.2.2.2.2.2.2.2.2.2 n (by omega)).2
    refine ⟨?_, ?_⟩
    · by_cases d : ph f = 12
      · rw [d, ur_s]; exact h16 (ph_ij hf (by omega) (d.trans (show 12 = ph 5 from rfl)))
      · rw [ur_n (by omega)]; exact hb.1
    · by_cases d : ph f = 17
      · rw [d, ur_s]; exact h17 (ph_ij hf (by omega) (d.trans (show 17 = ph 10 from rfl)))
      · rw [ur_n (by omega)]; exact hb.2
/-- a place -/
theorem simS_p {B n : Nat} {g s : Nat → Int32} {v v' : Int32} (h : SimS B g s) (hn : n < cS s) (hv : PlO v v') (hb : ¬ v' ≤ -2000000001) (hd : ∀ n', n' < cS s → n' ≠ n → v' = s (85 + 29 * n' + 13) → v' = -1) : SimS B (ur g (85 + 28 * n + 6) v) (ur s (85 + 29 * n + 13) v') := by
  have c := simS_c h
  refine simS_1 h (Nat.le_refl _) hn (fun y hy => ur_n (by omega)) (fun y hy => ur_n (by omega)) (fun n' hn' hne => ⟨fun f' hf' => ur_n (by omega), fun f' hf' => ur_n (by omega)⟩) (fun f' hf' h6' => ?_) ?_ ?_ (rgs_up (rga_w (m := mk8 s) (by omega) (by omega) h.2.2.2.2.2.2.1)) (fun n' hn' hne e => ?_) (fun f' hf' => ?_) ?_
  · have p' := ph_lt hf'
    have : ph f' ≠ 13 := fun e => h6' (ph_ij hf' (by omega) (e.trans (show 13 = ph 6 from rfl)))
    rw [ur_n (by omega), ur_n (by omega)]; exact (h.2.2.1 n (by omega)).1 f' hf' h6'
  · obtain ⟨r, a1, a2, a3, a4⟩ := (h.2.2.1 n (by omega)).2
    refine ⟨r, a1, ?_, ?_, fun i hi => ?_⟩
    · rw [ur_n (by omega)]; exact a2
    · rw [ur_n (by omega)]; exact a3
    · rw [ur_n (by omega), ur_n (by omega)]; exact a4 i hi
  · rw [ur_s, ur_s]; exact hv
  · rw [ur_s] at e ⊢
    exact hd n' hn' hne e
  · by_cases d : f' = 13
    · subst d; rw [ur_s]; exact hb
    · rw [ur_n (by omega)]; exact (h.2.2.2.2.2.2.2.2.2.2 n (by omega)).1 f' hf'
  · exact brk_eq (h.2.2.2.2.2.2.2.2.2.2 n (by omega)).2 (ur_n (by omega)) (ur_n (by omega))
/-- the scanner -/
theorem simS_s {B : Nat} {g s : Nat → Int32} {v v' : Int32} (h : SimS B g s) (hv : PlO v v') : SimS B (ur g 2 v) (ur s 9 v') := by
  have c := simS_c h
  obtain ⟨hT, hP, hN, hpl, hno, hnt, hR, hm, hd, hb⟩ := h
  have e1 : ur s 9 v' 1 = s 1 := ur_n (by omega)
  have cc : cS (ur s 9 v') = cS s := by show (ur s 9 v' 1).toNatClampNeg = _; rw [e1]
  have e0 : ur s 9 v' 0 = s 0 := ur_n (by omega)
  refine ⟨⟨?_, ?_, fun k hk => ?_, fun k hk => ?_⟩, ?_, fun n hn => ⟨fun f hf h6 => ?_, ?_⟩, fun n hn => ?_, fun n hn hc => ⟨fun f hf h6 => ?_, ?_⟩, fun t ht hc => ?_, rgs_up (rga_9 (m := mk8 s) hR), ?_, fun n n' hn hn' e => ?_, fun k hk => ?_, fun n hn => ⟨fun f hf => ?_, ?_⟩⟩
  · rw [ur_n (by omega), ur_n (by omega)]; exact hT.1
  · rw [ur_n (by omega), ur_n (by omega)]; exact hT.2.1
  · rw [ur_n (by omega), ur_n (by omega)]; exact hT.2.2.1 k hk
  · rw [ur_n (by omega), ur_n (by omega)]; exact hT.2.2.2 k hk
  · rw [ur_s, ur_s]; exact hv
  · rw [ur_n (by omega), ur_n (by omega)]; exact (hN n hn).1 f hf h6
  · obtain ⟨r, a1, a2, a3, a4⟩ := (hN n hn).2
    refine ⟨r, a1, ?_, ?_, fun i hi => ?_⟩
    · rw [ur_n (by omega)]; exact a2
    · rw [ur_n (by omega)]; exact a3
    · rw [ur_n (by omega), ur_n (by omega)]; exact a4 i hi
  · rw [cc] at hn
    rw [ur_n (by omega), ur_n (by omega)]; exact hpl n hn
  · rw [cc] at hc
    rw [ur_n (by omega)]; exact (hno n hn hc).1 f hf h6
  · rw [cc] at hc
    rw [ur_n (by omega)]; exact (hno n hn hc).2
  · rw [e0] at hc
    rw [ur_n (by omega)]; exact hnt t ht hc
  · rw [ur_n (by omega)]; exact hm
  · rw [cc] at hn
    rw [ur_n (by omega), ur_n (by omega)] at e
    rw [ur_n (by omega)]; exact hd n n' hn hn' e
  · rw [ur_n (by omega)]; exact hb.1 k hk
  · rw [ur_n (by omega)]; exact (hb.2 n hn).1 f hf
  · exact brk_eq (hb.2 n hn).2 (ur_n (by omega)) (ur_n (by omega))
/-- a setting -/
theorem simS_t {B k : Nat} {g s : Nat → Int32} {v : Int32} (h : SimS B g s) (hk : k < 7) (hR : RGS (ur s (2 + k) v)) (h8 : k = 6 → ni 10 v) (hv : ¬ v ≤ -2000000001) : SimS B (ur g (3 + k) v) (ur s (2 + k) v) := by
  have c := simS_c h
  obtain ⟨hT, hP, hN, hpl, hno, hnt, -, hm, hd, hb⟩ := h
  have e1 : ur s (2 + k) v 1 = s 1 := ur_n (by omega)
  have cc : cS (ur s (2 + k) v) = cS s := by show (ur s (2 + k) v 1).toNatClampNeg = _; rw [e1]
  have e0 : ur s (2 + k) v 0 = s 0 := ur_n (by omega)
  refine ⟨⟨?_, ?_, fun k' hk' => ?_, fun k hk => ?_⟩, ?_, fun n hn => ⟨fun f hf h6 => ?_, ?_⟩, fun n hn => ?_, fun n hn hc => ⟨fun f hf h6 => ?_, ?_⟩, fun t ht hc => ?_, hR, ?_, fun n n' hn hn' e => ?_, fun k' hk' => ?_, fun n hn => ⟨fun f hf => ?_, ?_⟩⟩
  · rw [ur_n (by omega), ur_n (by omega)]; exact hT.1
  · rw [ur_n (by omega), ur_n (by omega)]; exact hT.2.1
  · by_cases d : k' = k
    · subst d; rw [ur_s, ur_s]
    · rw [ur_n (by omega), ur_n (by omega)]; exact hT.2.2.1 k' hk'
  · rw [ur_n (by omega), ur_n (by omega)]; exact hT.2.2.2 k hk
  · rw [ur_n (by omega), ur_n (by omega)]; exact hP
  · rw [ur_n (by omega), ur_n (by omega)]; exact (hN n hn).1 f hf h6
  · obtain ⟨r, a1, a2, a3, a4⟩ := (hN n hn).2
    refine ⟨r, a1, ?_, ?_, fun i hi => ?_⟩
    · rw [ur_n (by omega)]; exact a2
    · rw [ur_n (by omega)]; exact a3
    · rw [ur_n (by omega), ur_n (by omega)]; exact a4 i hi
  · rw [cc] at hn
    rw [ur_n (by omega), ur_n (by omega)]; exact hpl n hn
  · rw [cc] at hc
    rw [ur_n (by omega)]; exact (hno n hn hc).1 f hf h6
  · rw [cc] at hc
    rw [ur_n (by omega)]; exact (hno n hn hc).2
  · rw [e0] at hc
    rw [ur_n (by omega)]; exact hnt t ht hc
  · by_cases d : k = 6
    · subst d; rw [ur_s]; exact h8 rfl
    · rw [ur_n (by omega)]; exact hm
  · rw [cc] at hn
    rw [ur_n (by omega), ur_n (by omega)] at e
    rw [ur_n (by omega)]; exact hd n n' hn hn' e
  · by_cases d : k' = k
    · subst d; rw [ur_s]; exact hv
    · rw [ur_n (by omega)]; exact hb.1 k' hk'
  · rw [ur_n (by omega)]; exact (hb.2 n hn).1 f hf
  · exact brk_eq (hb.2 n hn).2 (ur_n (by omega)) (ur_n (by omega))
