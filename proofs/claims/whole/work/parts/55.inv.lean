/-! ===== what holds between two calls; a refused call, a change ===== -/
def HiR (B : Nat) (μ : Mu) : Prop := ∃ st, st ≤ 4 ∧ μ.1 6 0 = nI st ∧ μ.1 7 0 = nI st ∧ KOk μ.2.2 ∧ (∀ x, x < 4 → ∀ y, y < 4 → μ.2.2 x = μ.2.2 y → x = y) ∧ ∀ k, k < st → SimS B (μ.1 (μ.2.2 k)) (fun y => μ.1 9 (259 * k + y))
def TxR (μ : Mu) : Prop := (∃ L, L ≤ 60 ∧ μ.1 6 3 = nI L ∧ μ.1 7 1 = nI L) ∧ (∀ y, y < 60 → μ.1 6 (8 + y) = μ.1 12 y) ∧ ChOk (μ.1 6)
def Inv (B : Nat) (μ : Mu) : Prop := SimS B (μ.1 0) (μ.1 8) ∧ HiR B μ ∧ TxR μ
theorem txR_eq {μ μ' : Mu} (h : TxR μ) (h63 : μ'.1 6 3 = μ.1 6 3) (hch : ∀ y, y < 60 → μ'.1 6 (8 + y) = μ.1 6 (8 + y)) (h71 : μ'.1 7 1 = μ.1 7 1) (h12 : ∀ y, y < 60 → μ'.1 12 y = μ.1 12 y) : TxR μ' := by
  obtain ⟨⟨L, hL, a1, a2⟩, a3, a4⟩ := h
  exact ⟨⟨L, hL, h63.trans a1, h71.trans a2⟩, fun y hy => by rw [hch y hy, h12 y hy]; exact a3 y hy, fun y hy => by rw [hch y hy]; exact a4 y hy⟩
theorem inv_same {B B' : Nat} {μ μ' : Mu} (h : Inv B μ) (hB : B ≤ B') (hK : μ'.2.2 = μ.2.2) (hj : ∀ j, j < 6 → j ≠ 1 → ∀ y, y < 253 → μ'.1 j y = μ.1 j y) (h60 : μ'.1 6 0 = μ.1 6 0) (h63 : μ'.1 6 3 = μ.1 6 3) (hch : ∀ y, y < 60 → μ'.1 6 (8 + y) = μ.1 6 (8 + y)) (h70 : μ'.1 7 0 = μ.1 7 0) (h71 : μ'.1 7 1 = μ.1 7 1) (h8 : ∀ y, y < 259 → μ'.1 8 y = μ.1 8 y) (h9 : ∀ y, y < 1036 → μ'.1 9 y = μ.1 9 y) (h12 : ∀ y, y < 60 → μ'.1 12 y = μ.1 12 y) : Inv B' μ' := by
  obtain ⟨a, ⟨st, hst, b1, b2, b3, b4, b5⟩, c⟩ := h
  refine ⟨simS_mono (simS_eq a (hj 0 (by omega) (by omega)) h8) hB, ⟨st, hst, h60.trans b1, h70.trans b2, by rw [hK]; exact b3, by rw [hK]; exact b4, fun k hk => ?_⟩, txR_eq c h63 hch h71 h12⟩
  have := b3 k (by omega)
  rw [hK]
  exact simS_mono (simS_eq (b5 k hk) (hj _ (by omega) (by omega)) (fun y hy => h9 _ (by omega))) hB
theorem Kr_ok {st : Nat} {K : Nat → Nat} (h : KOk K) : KOk (Kr st K) := by
  intro y hy
  unfold Kr
  by_cases c : st = 4
  · rw [if_pos c]
    have h0 := h 0 (by omega); have h1 := h 1 (by omega); have h2 := h 2 (by omega); have h3 := h 3 (by omega)
    rcases (show y = 0 ∨ y = 1 ∨ y = 2 ∨ y = 3 by omega) with rfl | rfl | rfl | rfl
    · exact h1
    · exact h2
    · exact h3
    · exact h0
  · rw [if_neg c]; exact h y hy
theorem Kr_ij {st : Nat} {K : Nat → Nat} (h : ∀ x, x < 4 → ∀ y, y < 4 → K x = K y → x = y) : ∀ x, x < 4 → ∀ y, y < 4 → Kr st K x = Kr st K y → x = y := by
  by_cases c : st = 4
  · subst c
    have e : ∀ x, x < 4 → Kr 4 K x = K ((x + 1) % 4) := by
      intro x hx
      rcases (show x = 0 ∨ x = 1 ∨ x = 2 ∨ x = 3 by omega) with rfl | rfl | rfl | rfl <;> rfl
    intro x hx y hy q
    rw [e x hx, e y hy] at q
    have := h _ (by omega) _ (by omega) q
    omega
  · rw [show Kr st K = K from if_neg c]; exact h
theorem Kr_4 {K : Nat → Nat} {k : Nat} (hk : k < 3) : Kr 4 K k = K (k + 1) := by
  rcases (show k = 0 ∨ k = 1 ∨ k = 2 by omega) with rfl | rfl | rfl <;> rfl
theorem inv_ch {B B' : Nat} {μ a m : Mu} {w : Int32} (h : Inv B μ) (hB : B ≤ B') (hK : a.2.2 = (sp_X0_record μ).2.2) (hj : ∀ j, 2 ≤ j → j < 6 → ∀ y, y < 253 → a.1 j y = (sp_X0_record μ).1 j y) (h60 : a.1 6 0 = (sp_X0_record μ).1 6 0) (h63 : a.1 6 3 = μ.1 6 3) (hch : ∀ y, y < 60 → a.1 6 (8 + y) = μ.1 6 (8 + y)) (mK : m.2.2 = a.2.2) (mr : ∀ c, c < 7 → m.1 c = a.1 c) (m70 : m.1 7 0 = μ.1 7 0) (m71 : m.1 7 1 = μ.1 7 1) (m9 : m.1 9 = μ.1 9) (m12 : m.1 12 = μ.1 12) (m11 : ∀ y, y < 259 → m.1 11 y = μ.1 8 y) (hw : ¬ w ≤ -2000000001) (hS : SimS B' (a.1 0) (m.1 8)) : (sp_X8_acted m w).1 = w ∧ Inv B' (sp_X8_acted m w).2 := by
  obtain ⟨p, ⟨st, hst, b1, b2, b3, b4, b5⟩, c⟩ := h
  obtain ⟨r1, r2, r3, r4, r5, r6⟩ := rec_ok μ b1 hst b3
  obtain ⟨m', e, a1, a2, a3, a4, a5⟩ := acted_ok m (m70.trans b2) hst hw
  rw [e]
  have oK := Kr_ok (st := st) b3
  have iK := Kr_ij (st := st) b4
  have eK : m'.2.2 = Kr st μ.2.2 := by rw [a1, mK, hK, r2]
  have erow : ∀ x, x < 7 → m'.1 x = a.1 x := fun x hx => (a2 x (by omega) (by omega)).trans (mr x hx)
  refine ⟨rfl, ?_, ⟨min st 3 + 1, by omega, ?_, a4, by rw [eK]; exact oK, by rw [eK]; exact iK, fun k hk => ?_⟩, ?_⟩
  · show SimS B' (m'.1 0) (m'.1 8)
    rw [erow 0 (by omega), a2 8 (by omega) (by omega)]; exact hS
  · show m'.1 6 0 = _
    rw [erow 6 (by omega), h60, r3]
  · show SimS B' (m'.1 (m'.2.2 k)) (fun y => m'.1 9 (259 * k + y))
    have hk4 := oK k (by omega)
    rw [eK, erow _ (by omega)]
    by_cases d : k = min st 3
    · subst d
      refine simS_mono (simS_eq p (fun y hy => ?_) (fun y hy => ?_)) hB
      · rw [hj _ hk4.1 hk4.2 y hy, r4 y hy]
      · show m'.1 9 _ = _
        rw [a5 _ hk y hy, if_pos rfl, m11 y hy]
    · have hne : Kr st μ.2.2 k ≠ Kr st μ.2.2 (min st 3) := fun q => d (iK k (by omega) _ (by omega) q)
      by_cases f : st = 4
      · subst f
        refine simS_mono (simS_eq (b5 (k + 1) (by omega)) (fun y hy => ?_) (fun y hy => ?_)) hB
        · rw [hj _ hk4.1 hk4.2 y hy, r5 _ (by omega) hne, Kr_4 (by omega)]
        · show m'.1 9 _ = _
          rw [a5 _ hk y hy, if_neg d, if_pos rfl, m9]
      · refine simS_mono (simS_eq (b5 k (by omega)) (fun y hy => ?_) (fun y hy => ?_)) hB
        · rw [hj _ hk4.1 hk4.2 y hy, r5 _ (by omega) hne, show Kr st μ.2.2 = μ.2.2 from if_neg f]
        · show m'.1 9 _ = _
          rw [a5 _ hk y hy, if_neg d, if_neg f, m9]
  · exact txR_eq c ((congrFun (erow 6 (by omega)) 3).trans h63) (fun y hy => (congrFun (erow 6 (by omega)) _).trans (hch y hy)) ((a3 1 (by omega)).trans m71) (fun y hy => by rw [show (w, m').2 = m' from rfl, a2 12 (by omega) (by omega), m12])
/-- a call of the class, then the reference's -/
def Stq (B : Nat) (a : Int32 × Mu) (b : Mu → Int32 × Mu) : Prop := a.1 = (b a.2).1 ∧ Inv B (b a.2).2
theorem stp_no {B B' : Nat} {μ : Mu} {r : Int32} {b : Mu → Int32 × Mu} (h : Inv B μ) (hB : B ≤ B') (e : b μ = (r, μ)) : Stq B' (r, μ) b := by
  unfold Stq
  rw [e]
  exact ⟨rfl, inv_same h hB rfl (fun _ _ _ _ _ => rfl) rfl rfl (fun _ _ => rfl) rfl rfl (fun _ _ => rfl) (fun _ _ => rfl) (fun _ _ => rfl)⟩
/-- refused behind measuring and keeping -/
theorem inv_kp {B B' : Nat} {μ : Mu} (h : Inv B μ) (hB : B ≤ B') : Inv B' (pC μ 11 0 8 0 259) := inv_same h hB rfl (fun j hj _ _ _ => by rw [pC_row (by omega)]) (by rw [pC_row (by omega)]) (by rw [pC_row (by omega)]) (fun _ _ => by rw [pC_row (by omega)]) (by rw [pC_row (by omega)]) (by rw [pC_row (by omega)]) (fun _ _ => by rw [pC_row (by omega)]) (fun _ _ => by rw [pC_row (by omega)]) (fun _ _ => by rw [pC_row (by omega)])
theorem inv_ms {B B' : Nat} {μ : Mu} (h : Inv B μ) (hB : B ≤ B') (n : Nat) : Inv B' (msr μ 0 n) := inv_same h hB rfl (fun j hj _ _ _ => by rw [ms_M _ _ (by omega)]) (ms_6 _ _ _ (by omega) (by omega)) (ms_6 _ _ _ (by omega) (by omega)) (fun _ _ => ms_6 _ _ _ (by omega) (by omega)) (by rw [ms_M _ _ (by omega)]) (by rw [ms_M _ _ (by omega)]) (fun _ _ => by rw [ms_M _ _ (by omega)]) (fun _ _ => by rw [ms_M _ _ (by omega)]) (fun _ _ => by rw [ms_M _ _ (by omega)])
theorem rec_0 {B : Nat} {μ : Mu} (h : Inv B μ) : (sp_X0_record μ).1 0 = μ.1 0 := by
  obtain ⟨p, ⟨st, hst, b1, b2, b3, b4, b5⟩, c⟩ := h
  obtain ⟨r1, r2, r3, r4, r5, r6⟩ := rec_ok μ b1 hst b3
  have := Kr_ok (st := st) b3 (min st 3) (by omega)
  exact r5 0 (by omega) (by omega)
theorem rec_7 {B : Nat} {μ : Mu} (h : Inv B μ) {c : Nat} (hc : 7 ≤ c) : (sp_X0_record μ).1 c = μ.1 c := by
  obtain ⟨p, ⟨st, hst, b1, b2, b3, b4, b5⟩, -⟩ := h
  obtain ⟨r1, r2, r3, r4, r5, r6⟩ := rec_ok μ b1 hst b3
  have := Kr_ok (st := st) b3 (min st 3) (by omega)
  exact r5 c (by omega) (by omega)
theorem rec_6 {B : Nat} {μ : Mu} (h : Inv B μ) {k : Nat} (hk : k ≠ 0) : (sp_X0_record μ).1 6 k = μ.1 6 k := by
  obtain ⟨p, ⟨st, hst, b1, b2, b3, b4, b5⟩, -⟩ := h
  obtain ⟨r1, r2, r3, r4, r5, r6⟩ := rec_ok μ b1 hst b3
  exact r6 k hk
/-- a change: the class records and its row 0 becomes x.1 0; the reference acts -/
theorem stp_ch {B B' : Nat} {μ x m : Mu} {r w : Int32} {b : Mu → Int32 × Mu} (h : Inv B μ) (hB : B ≤ B') (hx : x.2.2 = (sp_X0_record μ).2.2 ∧ ∀ c, c ≠ 0 → x.1 c = (sp_X0_record μ).1 c) (e : b x = ((sp_X8_acted m w).1, (sp_X8_acted m w).2)) (hr : r = w) (hm : m.2.2 = x.2.2 ∧ (∀ c, c ≠ 8 → c ≠ 11 → m.1 c = x.1 c) ∧ ∀ y, y < 259 → m.1 11 y = x.1 8 y) (hw : ¬ w ≤ -2000000001) (hS : SimS B' (x.1 0) (m.1 8)) : Stq B' (r, x) b := by
  have e7 : ∀ c, 7 ≤ c → x.1 c = μ.1 c := fun c hc => (hx.2 c (by omega)).trans (rec_7 h hc)
  obtain ⟨q1, q2⟩ := inv_ch (a := x) (m := m) h hB hx.1 (fun j h1 _ y _ => by rw [hx.2 j (by omega)]) (by rw [hx.2 6 (by omega)]) (by rw [hx.2 6 (by omega)]; exact rec_6 h (by omega)) (fun y _ => by rw [hx.2 6 (by omega)]; exact rec_6 h (by omega)) hm.1 (fun c hc => hm.2.1 c (by omega) (by omega)) (by rw [hm.2.1 7 (by omega) (by omega), e7 7 (by omega)]) (by rw [hm.2.1 7 (by omega) (by omega), e7 7 (by omega)]) (by rw [hm.2.1 9 (by omega) (by omega), e7 9 (by omega)]) (by rw [hm.2.1 12 (by omega) (by omega), e7 12 (by omega)]) (fun y hy => by rw [hm.2.2 y hy, e7 8 (by omega)]) hw hS
  unfold Stq
  rw [e, hr]
  exact ⟨q1.symm, q2⟩
theorem kp_11 (x : Mu) {y : Nat} (hy : y < 259) : (pC x 11 0 8 0 259).1 11 y = x.1 8 y := by
  rw [rowC_s _ _ _ _ _ _ ⟨by omega, by omega⟩, show 0 + (y - 0) = y by omega]
/-- one write on both sides -/
theorem stp_w {B B' : Nat} {μ : Mu} {k k' : Nat} {v v' r w : Int32} {b : Mu → Int32 × Mu} (h : Inv B μ) (hB : B ≤ B') (e : b (pM (sp_X0_record μ) 0 k v) = ((sp_X8_acted (pM (pC (pM (sp_X0_record μ) 0 k v) 11 0 8 0 259) 8 k' v') w).1, (sp_X8_acted (pM (pC (pM (sp_X0_record μ) 0 k v) 11 0 8 0 259) 8 k' v') w).2)) (hr : r = w) (hw : ¬ w ≤ -2000000001) (hS : SimS B' (ur (μ.1 0) k v) (ur (μ.1 8) k' v')) : Stq B' (r, pM (sp_X0_record μ) 0 k v) b := by
  refine stp_ch h hB ⟨rfl, fun c hc => row_n _ hc⟩ e hr ⟨rfl, fun c h1 h2 => ?_, fun y hy => ?_⟩ hw ?_
  · rw [row_n _ h1, pC_row h2]
  · rw [row_n _ (by omega), kp_11 _ hy]
  · rw [row_s, row_s, pC_row (by omega), row_n _ (show (8 : Nat) ≠ 0 by omega), rec_0 h, rec_7 h (by omega)]; exact hS
theorem i2g {L H w : Int32} {L' H' : Int64} (hL : L.toInt64 = L') (hH : H.toInt64 = H') : L' ≤ w.toInt64 ∧ w.toInt64 ≤ H' ↔ L ≤ w ∧ w ≤ H := by
  rw [← hL, ← hH, le64, le64]
theorem senI {B : Nat} {g s : Nat → Int32} (h : SimS B g s) (a : Int32) : sp_X4_sensorAt g a = if 0 ≤ a ∧ a ≤ s 1 - 1 then some a.toNatClampNeg else none := by
  rw [senAt (by rw [h.1.2.1]; exact (simS_RI h).2.1), h.1.2.1]
theorem tabI {B : Nat} {g s : Nat → Int32} (h : SimS B g s) (a : Int32) : sp_X4_tableAt g a = if 0 ≤ a ∧ a ≤ s 0 - 1 then some a.toNatClampNeg else none := by
  rw [tabAt (by rw [h.1.1]; exact (simS_RI h).1), h.1.1]
theorem sen_lt {B : Nat} {g s : Nat → Int32} (h : SimS B g s) {a : Int32} (c : 0 ≤ a ∧ a ≤ s 1 - 1) : a = nI a.toNatClampNeg ∧ a.toNatClampNeg < cS s := ni_of (simS_RI h).2.1 (by decide) c
theorem nle_bd {x : Int32} (h : -2000000000 ≤ x.toInt) : ¬ x ≤ -2000000001 := by
  rw [Int32.le_iff_toInt_le, show (-2000000001 : Int32).toInt = -2000000001 by decide]; omega
