/-! ===== rows as functions; what copying, recording, undoing leave ===== -/
def ur (g : Nat → Int32) (k : Nat) (v : Int32) : Nat → Int32 := fun y => if y = k then v else g y
theorem ur_s {g : Nat → Int32} {k : Nat} {v : Int32} : ur g k v k = v := if_pos rfl
theorem ur_n {g : Nat → Int32} {k y : Nat} {v : Int32} (h : y ≠ k) : ur g k v y = g y := if_neg h
theorem row_s (μ : Mu) (c k : Nat) (v : Int32) : (pM μ c k v).1 c = ur (μ.1 c) k v := by
  funext y
  simp [pM, upM, ur]
theorem row_n (μ : Mu) {c c' k : Nat} {v : Int32} (h : c' ≠ c) : (pM μ c k v).1 c' = μ.1 c' := upM_r _ _ h
theorem row_k (μ : Mu) {c k k' : Nat} {v : Int32} (h : k' ≠ k) : (pM μ c k v).1 c k' = μ.1 c k' := upM_k _ _ h
theorem row_at (μ : Mu) {c k : Nat} {v : Int32} : (pM μ c k v).1 c k = v := upM_s _ _ _ _
theorem rowC_s (μ : Mu) (c b c' b' n : Nat) {x : Nat} (h : b ≤ x ∧ x < b + n) : (pC μ c b c' b' n).1 c x = μ.1 c' (b' + (x - b)) := if_pos ⟨rfl, h.1, h.2⟩
theorem rowC_o (μ : Mu) (c b c' b' n : Nat) {x : Nat} (h : ¬ (b ≤ x ∧ x < b + n)) : (pC μ c b c' b' n).1 c x = μ.1 c x := if_neg (fun q => h q.2)
def CPy (μ0 : Mu) (j j2 : Nat) (S : Nat → Prop) (m : Mu) : Prop := m.2 = μ0.2 ∧ (∀ c, c ≠ j → m.1 c = μ0.1 c) ∧ (∀ x, S x → m.1 j x = μ0.1 j2 x) ∧ ∀ x, ¬ S x → m.1 j x = μ0.1 j x
theorem cp_0 {μ0 : Mu} {j j2 : Nat} : CPy μ0 j j2 (fun _ => False) μ0 := ⟨rfl, fun _ _ => rfl, fun _ h => h.elim, fun _ _ => rfl⟩
theorem cp_M {μ0 m : Mu} {j j2 k : Nat} {S : Nat → Prop} {v : Int32} (h : CPy μ0 j j2 S m) (hv : v = μ0.1 j2 k) : CPy μ0 j j2 (fun x => S x ∨ x = k) (pM m j k v) := by
  refine ⟨h.1, fun c hc => (row_n m hc).trans (h.2.1 c hc), fun x hx => ?_, fun x hx => ?_⟩
  · by_cases e : x = k
    · subst e; rw [row_at, hv]
    · rw [row_k m e]; exact h.2.2.1 x (hx.resolve_right e)
  · rw [row_k m (fun e => hx (Or.inr e))]; exact h.2.2.2 x (fun q => hx (Or.inl q))
theorem cp_C {μ0 m : Mu} {j j2 b n : Nat} {S : Nat → Prop} (h : CPy μ0 j j2 S m) (hne : j2 ≠ j) : CPy μ0 j j2 (fun x => S x ∨ (b ≤ x ∧ x < b + n)) (pC m j b j2 b n) := by
  refine ⟨h.1, fun c hc => (pC_row hc).trans (h.2.1 c hc), fun x hx => ?_, fun x hx => ?_⟩
  · by_cases e : b ≤ x ∧ x < b + n
    · rw [rowC_s m _ _ _ _ _ e, h.2.1 j2 hne, show b + (x - b) = x by omega]
    · rw [rowC_o m _ _ _ _ _ e]; exact h.2.2.1 x (hx.resolve_right e)
  · rw [rowC_o m _ _ _ _ _ (fun e => hx (Or.inr e))]; exact h.2.2.2 x (fun q => hx (Or.inl q))
theorem cp_eq {μ0 m : Mu} {j j2 : Nat} {S S' : Nat → Prop} (h : CPy μ0 j j2 S m) (e : ∀ x, S x ↔ S' x) : CPy μ0 j j2 S' m := ⟨h.1, h.2.1, fun x hx => h.2.2.1 x ((e x).mpr hx), fun x hx => h.2.2.2 x (fun q => hx ((e x).mp q))⟩
theorem cp_X5 {μ0 m : Mu} {j j2 t : Nat} {S : Nat → Prop} (h : CPy μ0 j j2 S m) (hne : j2 ≠ j) : CPy μ0 j j2 (fun x => S x ∨ (10 + 25 * t ≤ x ∧ x < 10 + 25 * t + 25)) (sp_X5_copy m j t j2 t) := by
  have e : ∀ k, m.1 j2 k = μ0.1 j2 k := fun k => by rw [h.2.1 j2 hne]
  unfold sp_X5_copy
  refine cp_eq (cp_C (cp_C (cp_M h (e _)) hne) hne) (fun x => ?_)
  unfold tN tD tR
  constructor
  · rintro (((q | q) | q) | q)
    · exact Or.inl q
    all_goals (right; omega)
  · rintro (q | q)
    · exact Or.inl (Or.inl (Or.inl q))
    · by_cases a : x = 10 + 25 * t
      · exact Or.inl (Or.inl (Or.inr a))
      · by_cases b : x < 23 + 25 * t
        · exact Or.inl (Or.inr (by omega))
        · exact Or.inr (by omega)
theorem cp_X3 {μ0 m : Mu} {j j2 n : Nat} {S : Nat → Prop} (h : CPy μ0 j j2 S m) (hne : j2 ≠ j) : CPy μ0 j j2 (fun x => S x ∨ (85 + 28 * n ≤ x ∧ x < 85 + 28 * n + 28)) (sp_X3_copy m j n j2 n) := by
  have e : ∀ k, m.1 j2 k = μ0.1 j2 k := fun k => by rw [h.2.1 j2 hne]
  unfold sp_X3_copy
  refine cp_eq (cp_C (cp_C (cp_C (cp_M (cp_M (cp_M (cp_M (cp_M (cp_M (cp_M (cp_M (cp_M (cp_M (cp_M (cp_M h (e _)) (e _)) (e _)) (e _)) (e _)) (e _)) (e _)) (e _)) (e _)) (e _)) (e _)) (e _)) hne) hne) hne) (fun x => ?_)
  unfold sF
  simp only [or_assoc]
  constructor
  · rintro (q | q)
    · exact Or.inl q
    · right; omega
  · rintro (q | q)
    · exact Or.inl q
    · right; omega
/-- a state's copy -/
theorem cp_X4 (μ : Mu) {j j2 : Nat} (hne : j2 ≠ j) : CPy μ j j2 (fun x => x < 253) (sp_X4_copy μ j j2) := by
  unfold sp_X4_copy
  refine cp_eq (cp_C (cp_X3 (cp_X3 (cp_X3 (cp_X3 (cp_X3 (cp_X3 (cp_X5 (cp_X5 (cp_X5 (cp_M (cp_M (cp_M cp_0 rfl) rfl) rfl) hne) hne) hne) hne) hne) hne) hne) hne) hne) hne) (fun x => ?_)
  simp only [or_assoc, false_or]
  omega
/-- what recording leaves: K turns when it is full -/
def Kr (st : Nat) (K : Nat → Nat) : Nat → Nat := if st = 4 then fun y => if y = 3 then K 0 else if y = 2 then K 3 else if y = 1 then K 2 else if y = 0 then K 1 else K y else K
theorem rec_ok (μ : Mu) {st : Nat} (h6 : μ.1 6 0 = nI st) (hst : st ≤ 4) (hK : KOk μ.2.2) : (sp_X0_record μ).2.1 = μ.2.1 ∧ (sp_X0_record μ).2.2 = Kr st μ.2.2 ∧ (sp_X0_record μ).1 6 0 = nI (min st 3 + 1) ∧ (∀ y, y < 253 → (sp_X0_record μ).1 (Kr st μ.2.2 (min st 3)) y = μ.1 0 y) ∧ (∀ c, c ≠ 6 → c ≠ Kr st μ.2.2 (min st 3) → (sp_X0_record μ).1 c = μ.1 c) ∧ ∀ k, k ≠ 0 → (sp_X0_record μ).1 6 k = μ.1 6 k := by
  have key : ∀ (m : Mu) (s2 : Nat) (K' : Nat → Nat), m.2.2 = K' → s2 < 4 → m.1 6 0 = nI s2 → 2 ≤ K' s2 → K' s2 < 6 → (pM (sp_X4_copy m (m.2.2 ((m.1 6 0).toNatClampNeg)) 0) 6 0 (((sp_X4_copy m (m.2.2 ((m.1 6 0).toNatClampNeg)) 0).1 6 0) + 1)).2 = m.2 ∧ (pM (sp_X4_copy m (m.2.2 ((m.1 6 0).toNatClampNeg)) 0) 6 0 (((sp_X4_copy m (m.2.2 ((m.1 6 0).toNatClampNeg)) 0).1 6 0) + 1)).1 6 0 = nI (s2 + 1) ∧ (∀ y, y < 253 → (pM (sp_X4_copy m (m.2.2 ((m.1 6 0).toNatClampNeg)) 0) 6 0 (((sp_X4_copy m (m.2.2 ((m.1 6 0).toNatClampNeg)) 0).1 6 0) + 1)).1 (K' s2) y = m.1 0 y) ∧ (∀ c, c ≠ 6 → c ≠ K' s2 → (pM (sp_X4_copy m (m.2.2 ((m.1 6 0).toNatClampNeg)) 0) 6 0 (((sp_X4_copy m (m.2.2 ((m.1 6 0).toNatClampNeg)) 0).1 6 0) + 1)).1 c = m.1 c) ∧ ∀ k, k ≠ 0 → (pM (sp_X4_copy m (m.2.2 ((m.1 6 0).toNatClampNeg)) 0) 6 0 (((sp_X4_copy m (m.2.2 ((m.1 6 0).toNatClampNeg)) 0).1 6 0) + 1)).1 6 k = m.1 6 k := by
    intro m s2 K' hK' hs h6' hk1 hk2
    rw [h6', nI_clamp (by omega), hK']
    have cp := cp_X4 m (j := K' s2) (j2 := 0) (by omega)
    have e6 : (sp_X4_copy m (K' s2) 0).1 6 = m.1 6 := cp.2.1 6 (by omega)
    refine ⟨cp.1, ?_, fun y hy => ?_, fun c hc hc2 => ?_, fun k hk => ?_⟩
    · rw [row_at, e6, h6']; exact nI_add s2 1
    · rw [row_n _ (by omega)]; exact cp.2.2.1 y hy
    · rw [row_n _ hc]; exact cp.2.1 c hc2
    · rw [row_k _ hk, e6]
  unfold sp_X0_record
  have hk0 := hK 0 (by omega)
  by_cases c : st = 4
  · subst c
    rw [if_neg (by rw [h6]; decide)]
    have d6 : (sp_X0_dropOldest μ).1 6 0 = nI 3 := row_at _
    have dK : (sp_X0_dropOldest μ).2.2 = Kr 4 μ.2.2 := by
      funext y
      show va_up (va_up (va_up (va_up μ.2.2 0 (μ.2.2 1)) 1 (μ.2.2 2)) 2 (μ.2.2 3)) 3 (μ.2.2 0) y = _
      unfold va_up Kr
      rfl
    rw [if_neg (by rw [d6]; decide), if_neg (by rw [d6]; decide)]
    obtain ⟨k1, k2, k3, k4, k5⟩ := key _ 3 _ dK (by omega) d6 (by show 2 ≤ μ.2.2 0; omega) (by show μ.2.2 0 < 6; omega)
    have k1a := congrArg Prod.fst k1
    have k1b := congrArg Prod.snd k1
    refine ⟨k1a, k1b.trans dK, k2, fun y hy => (k3 y hy).trans ?_, fun c hc hc2 => (k4 c hc hc2).trans ?_, fun k hk => (k5 k hk).trans ?_⟩
    · show (pM _ 6 0 _).1 0 y = _
      rw [row_n _ (by omega)]; rfl
    · show (pM _ 6 0 _).1 c = _
      rw [row_n _ hc]; rfl
    · show (pM _ 6 0 _).1 6 k = _
      rw [row_k _ hk]; rfl
  · have hs : st < 4 := by omega
    have hk := hK st hs
    rw [if_pos (by rw [h6, show (4 : Int32) = nI 4 from rfl, Int32.lt_iff_toInt_lt, nI_toInt (by omega), nI_toInt (by omega)]; omega), if_neg (by rw [h6, Int32.lt_iff_toInt_lt, nI_toInt (by omega), Int32.toInt_zero]; omega), if_neg (by rw [h6, show (4 : Int32) = nI 4 from rfl, nI_leI (by omega) (by omega)]; omega)]
    obtain ⟨k1, k2, k3, k4, k5⟩ := key μ st μ.2.2 rfl hs h6 hk.1 hk.2
    have eK : Kr st μ.2.2 = μ.2.2 := if_neg c
    rw [eK, show min st 3 = st by omega]
    exact ⟨congrArg Prod.fst k1, congrArg Prod.snd k1, k2, k3, k4, k5⟩
/-- the reference's recording -/
theorem ac57 {μ : Mu} {w : Int32} {st : Nat} (hst : st < 4) : ∀ (f k : Nat) (m : Mu), k + f = 260 → k ≤ 259 → m.1 7 0 = nI st → ∃ m', lp_X8_acted_57 μ w f k m = (w, m') ∧ m'.2 = m.2 ∧ (∀ c, c ≠ 7 → c ≠ 9 → m'.1 c = m.1 c) ∧ (∀ k, k ≠ 0 → m'.1 7 k = m.1 7 k) ∧ m'.1 7 0 = nI (st + 1) ∧ (∀ y, m'.1 9 y = if 259 * st + k ≤ y ∧ y < 259 * st + 259 then m.1 11 (y - 259 * st) else m.1 9 y) := by
  intro f
  induction f with
  | zero => intro k m h1 h2; omega
  | succ f ih =>
    intro k m h1 h2 h7
    unfold lp_X8_acted_57
    rw [show (259 : Int32) = nI 259 from rfl]
    by_cases c : 259 ≤ k
    · rw [if_pos ((nI_leI (by omega) (by omega)).mpr c)]
      refine ⟨_, rfl, rfl, fun c hc _ => row_n _ hc, fun k hk => row_k _ hk, ?_, fun y => ?_⟩
      · rw [row_at, h7, nI_clamp (by omega)]
      · rw [row_n _ (by omega), if_neg (by omega)]
    · rw [if_neg (fun q => c ((nI_leI (by omega) (by omega)).mp q)), h7, nI_clamp (by omega)]
      obtain ⟨m', e, a1, a2, a3, a4, a5⟩ := ih (k + 1) (pM m 9 (259 * st + k) (m.1 11 k)) (by omega) (by omega) (by rw [row_n _ (by omega)]; exact h7)
      refine ⟨m', e, a1, fun c h1 h2 => (a2 c h1 h2).trans (row_n _ h2), fun k hk => (a3 k hk).trans (by rw [row_n _ (by omega)]), a4, fun y => ?_⟩
      rw [a5 y, row_n _ (show (11 : Nat) ≠ 9 by omega)]
      by_cases d : y = 259 * st + k
      · subst d
        rw [if_neg (by omega), if_pos (by omega), row_at, show 259 * st + k - 259 * st = k by omega]
      · rw [row_k _ d]
        by_cases e : 259 * st + (k + 1) ≤ y ∧ y < 259 * st + 259
        · rw [if_pos e, if_pos (by omega)]
        · rw [if_neg e, if_neg (by omega)]
theorem ac16 {μ : Mu} {w : Int32} : ∀ (f k : Nat) (m : Mu), k + f = 778 → k ≤ 777 → ∃ m2, lp_X8_acted_16 μ w f k m = lp_X8_acted_57 μ w 260 0 (pM m2 7 0 (nI ((m2.1 7 0).toNatClampNeg - 1))) ∧ m2.2 = m.2 ∧ (∀ c, c ≠ 9 → m2.1 c = m.1 c) ∧ ∀ y, m2.1 9 y = if k ≤ y ∧ y < 777 then m.1 9 (y + 259) else m.1 9 y := by
  intro f
  induction f with
  | zero => intro k m h1 h2; omega
  | succ f ih =>
    intro k m h1 h2
    unfold lp_X8_acted_16
    rw [show (777 : Int32) = nI 777 from rfl]
    by_cases c : 777 ≤ k
    · rw [if_pos ((nI_leI (by omega) (by omega)).mpr c)]
      exact ⟨m, rfl, rfl, fun _ _ => rfl, fun y => by rw [if_neg (by omega)]⟩
    · rw [if_neg (fun q => c ((nI_leI (by omega) (by omega)).mp q))]
      obtain ⟨m2, e, a1, a2, a3⟩ := ih (k + 1) (pM m 9 k (m.1 9 (k + 259))) (by omega) (by omega)
      refine ⟨m2, e, a1, fun c hc => (a2 c hc).trans (row_n _ hc), fun y => ?_⟩
      rw [a3 y]
      by_cases d : y = k
      · subst d
        rw [if_neg (by omega), if_pos (by omega), row_at]
      · rw [row_k _ d]
        by_cases e : k + 1 ≤ y ∧ y < 777
        · rw [if_pos e, if_pos (by omega), row_k _ (by omega)]
        · rw [if_neg e, if_neg (by omega)]
theorem acted_no {m : Mu} {w : Int32} (hw : w ≤ -2000000001) : sp_X8_acted m w = (w, m) := if_pos hw
theorem acted_ok (m : Mu) {w : Int32} {st : Nat} (h7 : m.1 7 0 = nI st) (hst : st ≤ 4) (hw : ¬ w ≤ -2000000001) : ∃ m', sp_X8_acted m w = (w, m') ∧ m'.2 = m.2 ∧ (∀ c, c ≠ 7 → c ≠ 9 → m'.1 c = m.1 c) ∧ (∀ k, k ≠ 0 → m'.1 7 k = m.1 7 k) ∧ m'.1 7 0 = nI (min st 3 + 1) ∧ ∀ k, k < min st 3 + 1 → ∀ y, y < 259 → m'.1 9 (259 * k + y) = if k = min st 3 then m.1 11 y else if st = 4 then m.1 9 (259 * (k + 1) + y) else m.1 9 (259 * k + y) := by
  unfold sp_X8_acted
  rw [if_neg hw, h7, nI_clamp (by omega)]
  by_cases c : st = 4
  · subst c
    rw [if_pos (show nI 4 = (4 : Int32) from rfl)]
    obtain ⟨m2, e, a1, a2, a3⟩ := ac16 (μ := m) (w := w) 778 0 m (by omega) (by omega)
    rw [e, a2 7 (by omega), h7, nI_clamp (by omega)]
    obtain ⟨m', e', b1, b2, b3, b4, b5⟩ := ac57 (μ := m) (w := w) (st := 3) (by omega) 260 0 (pM m2 7 0 (nI (4 - 1))) (by omega) (by omega) (row_at _)
    refine ⟨m', e', b1.trans a1, fun c h1 h2 => (b2 c h1 h2).trans ((row_n _ h1).trans (a2 c h2)), fun k hk => (b3 k hk).trans ((row_k _ hk).trans (by rw [a2 7 (by omega)])), b4, fun k hk y hy => ?_⟩
    rw [b5, row_n _ (by omega), row_n _ (by omega), a2 11 (by omega), show min 4 3 = 3 by omega]
    by_cases d : k = 3
    · subst d
      rw [if_pos (by omega), if_pos rfl, show 259 * 3 + y - 259 * 3 = y by omega]
    · rw [if_neg (by omega), if_neg d, a3, if_pos (by omega), if_pos rfl, show 259 * k + y + 259 = 259 * (k + 1) + y by omega]
  · rw [if_neg (show ¬ nI st = (4 : Int32) from fun q => c (nI_ij (b := 4) (by omega) (by omega) q))]
    obtain ⟨m', e', b1, b2, b3, b4, b5⟩ := ac57 (μ := m) (w := w) (st := st) (by omega) 260 0 m (by omega) (by omega) h7
    rw [show min st 3 = st by omega]
    refine ⟨m', e', b1, b2, b3, b4, fun k hk y hy => ?_⟩
    rw [b5]
    by_cases d : k = st
    · subst d
      rw [if_pos (by omega), if_pos rfl, show 259 * k + y - 259 * k = y by omega]
    · rw [if_neg (by omega), if_neg d, if_neg c]
/-- the reference's undoing -/
theorem un22 {μ : Mu} {st : Nat} (hst : st < 4) : ∀ (f k : Nat) (m : Mu), k + f = 260 → k ≤ 259 → m.1 7 0 = nI st → ∃ m', lp_X8_undo_22 μ f k m = (nI st, m') ∧ m'.2 = m.2 ∧ (∀ c, c ≠ 8 → m'.1 c = m.1 c) ∧ ∀ y, m'.1 8 y = if k ≤ y ∧ y < 259 then m.1 9 (259 * st + y) else m.1 8 y := by
  intro f
  induction f with
  | zero => intro k m h1 h2; omega
  | succ f ih =>
    intro k m h1 h2 h7
    unfold lp_X8_undo_22
    rw [show (259 : Int32) = nI 259 from rfl, h7, nI_clamp (by omega)]
    by_cases c : 259 ≤ k
    · rw [if_pos ((nI_leI (by omega) (by omega)).mpr c)]
      exact ⟨_, rfl, rfl, fun _ _ => rfl, fun y => by rw [if_neg (by omega)]⟩
    · rw [if_neg (fun q => c ((nI_leI (by omega) (by omega)).mp q))]
      obtain ⟨m', e, a1, a2, a3⟩ := ih (k + 1) (pM m 8 k (m.1 9 (259 * st + k))) (by omega) (by omega) (by rw [row_n _ (by omega)]; exact h7)
      refine ⟨m', e, a1, fun c h1 => (a2 c h1).trans (row_n _ h1), fun y => ?_⟩
      rw [a3 y, row_n _ (show (9 : Nat) ≠ 8 by omega)]
      by_cases d : y = k
      · subst d
        rw [if_neg (by omega), if_pos (by omega), row_at]
      · rw [row_k _ d]
        by_cases e : k + 1 ≤ y ∧ y < 259
        · rw [if_pos e, if_pos (by omega)]
        · rw [if_neg e, if_neg (by omega)]
theorem undo_ok (m : Mu) {st : Nat} (h7 : m.1 7 0 = nI (st + 1)) (hst : st < 4) : ∃ m', sp_X8_undo m = (nI st, m') ∧ m'.2 = m.2 ∧ (∀ c, c ≠ 7 → c ≠ 8 → m'.1 c = m.1 c) ∧ (∀ k, k ≠ 0 → m'.1 7 k = m.1 7 k) ∧ m'.1 7 0 = nI st ∧ ∀ y, y < 259 → m'.1 8 y = m.1 9 (259 * st + y) := by
  unfold sp_X8_undo
  rw [h7, nI_clamp (by omega), if_neg (fun q => by have := nI_ij (b := 0) (by omega) (by omega) q; omega), show st + 1 - 1 = st by omega]
  obtain ⟨m', e, a1, a2, a3⟩ := un22 (μ := m) hst 260 0 (pM m 7 0 (nI st)) (by omega) (by omega) (row_at _)
  refine ⟨m', e, a1, fun c h1 h2 => (a2 c h2).trans (row_n _ h1), fun k hk => ?_, ?_, fun y hy => ?_⟩
  · rw [a2 7 (by omega)]; exact row_k _ hk
  · rw [a2 7 (by omega)]; exact row_at _
  · rw [a3 y, if_pos (by omega), row_n _ (by omega)]
theorem undo_no (m : Mu) (h7 : m.1 7 0 = nI 0) : sp_X8_undo m = (-2000000002, m) := by
  unfold sp_X8_undo
  rw [h7, if_pos (show nI (nI 0).toNatClampNeg = 0 by decide)]
