/-! ===== CELLS: ids by name, what each holds, what a write does ===== -/
def iS (j : Nat) : Nat := 37 * j
def iTs (j : Nat) : Nat := 37 * j + 1
def iSs (j : Nat) : Nat := 37 * j + 2
def iSe (j : Nat) : Nat := 37 * j + 3
def iT (j t : Nat) : Nat := 37 * j + 4 + 3 * t
def iTt (j t : Nat) : Nat := 37 * j + 5 + 3 * t
def iTr (j t : Nat) : Nat := 37 * j + 6 + 3 * t
def iN (j n : Nat) : Nat := 37 * j + 13 + 4 * n
def iNl (j n : Nat) : Nat := 37 * j + 14 + 4 * n
def iNs (j n : Nat) : Nat := 37 * j + 15 + 4 * n
def iNr (j n : Nat) : Nat := 37 * j + 16 + 4 * n
def iM (r : Nat) : Nat := 225 + r
def tN (t : Nat) : Nat := 10 + 25 * t
def tD (t k : Nat) : Nat := 11 + 25 * t + k
def tR (t k : Nat) : Nat := 23 + 25 * t + k
def sF (n f : Nat) : Nat := 85 + 28 * n + f
theorem tb_iS : ∀ j, j < 6 → tb (iS j) = (0, j, 0, 3) := by decide +kernel
theorem lt_iS {j : Nat} (hj : j < 6) : iS j < 232 := by unfold iS; omega
theorem tb_iTs : ∀ j, j < 6 → tb (iTs j) = (1, j, 3, 0) := by decide +kernel
theorem lt_iTs {j : Nat} (hj : j < 6) : iTs j < 232 := by unfold iTs; omega
theorem tb_iSs : ∀ j, j < 6 → tb (iSs j) = (2, j, 3, 0) := by decide +kernel
theorem lt_iSs {j : Nat} (hj : j < 6) : iSs j < 232 := by unfold iSs; omega
theorem tb_iSe : ∀ j, j < 6 → tb (iSe j) = (3, j, 3, 7) := by decide +kernel
theorem lt_iSe {j : Nat} (hj : j < 6) : iSe j < 232 := by unfold iSe; omega
theorem tb_iT : ∀ j, j < 6 → ∀ t, t < 3 → tb (iT j t) = (4, j, tN t, 1) := by decide +kernel
theorem lt_iT {j : Nat} {t : Nat} (hj : j < 6) (ht : t < 3) : iT j t < 232 := by unfold iT; omega
theorem tb_iTt : ∀ j, j < 6 → ∀ t, t < 3 → tb (iTt j t) = (3, j, tD t 0, 12) := by decide +kernel
theorem lt_iTt {j : Nat} {t : Nat} (hj : j < 6) (ht : t < 3) : iTt j t < 232 := by unfold iTt; omega
theorem tb_iTr : ∀ j, j < 6 → ∀ t, t < 3 → tb (iTr j t) = (3, j, tR t 0, 12) := by decide +kernel
theorem lt_iTr {j : Nat} {t : Nat} (hj : j < 6) (ht : t < 3) : iTr j t < 232 := by unfold iTr; omega
theorem tb_iN : ∀ j, j < 6 → ∀ n, n < 6 → tb (iN j n) = (5, j, sF n 0, 12) := by decide +kernel
theorem lt_iN {j : Nat} {n : Nat} (hj : j < 6) (hn : n < 6) : iN j n < 232 := by unfold iN; omega
theorem tb_iNl : ∀ j, j < 6 → ∀ n, n < 6 → tb (iNl j n) = (3, j, sF n 12, 4) := by decide +kernel
theorem lt_iNl {j : Nat} {n : Nat} (hj : j < 6) (hn : n < 6) : iNl j n < 232 := by unfold iNl; omega
theorem tb_iNs : ∀ j, j < 6 → ∀ n, n < 6 → tb (iNs j n) = (3, j, sF n 16, 3) := by decide +kernel
theorem lt_iNs {j : Nat} {n : Nat} (hj : j < 6) (hn : n < 6) : iNs j n < 232 := by unfold iNs; omega
theorem tb_iNr : ∀ j, j < 6 → ∀ n, n < 6 → tb (iNr j n) = (3, j, sF n 19, 9) := by decide +kernel
theorem lt_iNr {j : Nat} {n : Nat} (hj : j < 6) (hn : n < 6) : iNr j n < 232 := by unfold iNr; omega
theorem tb_iM : ∀ r, r < 3 → tb (iM r) = (9, 6, 3, 0) := by decide +kernel
theorem lt_iM {r : Nat} (hr : r < 3) : iM r < 232 := by unfold iM; omega
abbrev fsS (E : En) (μ : Mu) (j : Nat) : List Value := [.int (μ.1 j 0), .int (μ.1 j 1), .int (μ.1 j 2), .ref (E.1 (iTs j)), .ref (E.1 (iSs j)), .ref (E.1 (iSe j))]
abbrev fsT (E : En) (μ : Mu) (j t : Nat) : List Value := [.int (μ.1 j (tN t)), .ref (E.1 (iTt j t)), .ref (E.1 (iTr j t))]
abbrev fsN (E : En) (μ : Mu) (j n : Nat) : List Value := [.int (μ.1 j (sF n 0)), .int (μ.1 j (sF n 1)), .int (μ.1 j (sF n 2)), .int (μ.1 j (sF n 3)), .int (μ.1 j (sF n 4)), .int (μ.1 j (sF n 5)), .int (μ.1 j (sF n 6)), .int (μ.1 j (sF n 7)), .int (μ.1 j (sF n 8)), .int (μ.1 j (sF n 9)), .int (μ.1 j (sF n 10)), .int (μ.1 j (sF n 11)), .ref (E.1 (iNl j n)), .ref (E.1 (iNs j n)), .ref (E.1 (iNr j n))]
abbrev fsHi (E : En) (μ : Mu)  : List Value := [.int (μ.1 6 0), .ref (E.1 223)]
abbrev fsMe (E : En) (μ : Mu)  : List Value := [.ref (E.1 (iM 0)), .ref (E.1 (iM 1)), .long (μ.2.1 3 0), .int (μ.1 6 1), .int (μ.1 6 2)]
abbrev fsM (E : En) (μ : Mu) (r : Nat) : List Value := [.long (μ.2.1 r 0), .long (μ.2.1 r 1), .long (μ.2.1 r 2), .long (μ.2.1 r 3), .long (μ.2.1 r 4), .long (μ.2.1 r 5), .long (μ.2.1 r 6), .long (μ.2.1 r 7), .long (μ.2.1 r 8), .long (μ.2.1 r 9), .long (μ.2.1 r 10)]
abbrev fsTx (E : En) (μ : Mu)  : List Value := [.int (μ.1 6 3), .int (μ.1 6 4), .int (μ.1 6 5), .int (μ.1 6 6), .int (μ.1 6 7), .ref (E.1 229)]
abbrev fsO (E : En) (μ : Mu)  : List Value := [.ref (E.1 (iS 0)), .ref (E.1 (iS 1)), .ref (E.1 222), .ref (E.1 224), .ref (E.1 (iM 2)), .ref (E.1 228), .ref (E.1 230), .int (μ.1 6 77), .int (μ.1 6 78), .int (μ.1 6 79)]
theorem c_iS (E : En) (μ : Mu) {j : Nat} (hj : j < 6) : cell E μ (iS j) = .inr (4, fsS E μ j) := by
  have h := tb_iS j hj
  unfold cell
  rw [h]
  simp [cellK, tr, iS, iTs, iSs, iSe]
theorem c_iTs (E : En) (μ : Mu) {j : Nat} (hj : j < 6) : cell E μ (iTs j) = .inl (E.2.2 2, 3, .inr (.inr (.inr (.inr (fun y => if y < 3 then some (E.1 (iT j y)) else none))))) := by
  have h := tb_iTs j hj
  unfold cell
  rw [h]
  simp [cellK, iTs, iT, Nat.add_assoc]
theorem c_iSs (E : En) (μ : Mu) {j : Nat} (hj : j < 6) : cell E μ (iSs j) = .inl (E.2.2 3, 6, .inr (.inr (.inr (.inr (fun y => if y < 6 then some (E.1 (iN j y)) else none))))) := by
  have h := tb_iSs j hj
  unfold cell
  rw [h]
  simp [cellK, iSs, iN, Nat.add_assoc]
theorem c_iSe (E : En) (μ : Mu) {j : Nat} (hj : j < 6) : cell E μ (iSe j) = .inl (E.2.2 0, 7, .inl (tr 7 (fun y => μ.1 j (3 + y)))) := by
  have h := tb_iSe j hj
  unfold cell
  rw [h]
  simp [cellK, tD, tR, sF, Nat.add_assoc]
theorem c_iT (E : En) (μ : Mu) {j : Nat} {t : Nat} (hj : j < 6) (ht : t < 3) : cell E μ (iT j t) = .inr (5, fsT E μ j t) := by
  have h := tb_iT j hj t ht
  unfold cell
  rw [h]
  simp [cellK, tr, iT, iTt, iTr, show 37 * j + 4 + 3 * t + 1 = 37 * j + 5 + 3 * t by omega, show 37 * j + 4 + 3 * t + 2 = 37 * j + 6 + 3 * t by omega]
theorem c_iTt (E : En) (μ : Mu) {j : Nat} {t : Nat} (hj : j < 6) (ht : t < 3) : cell E μ (iTt j t) = .inl (E.2.2 0, 12, .inl (tr 12 (fun y => μ.1 j (tD t y)))) := by
  have h := tb_iTt j hj t ht
  unfold cell
  rw [h]
  simp [cellK, tD, tR, sF, Nat.add_assoc]
theorem c_iTr (E : En) (μ : Mu) {j : Nat} {t : Nat} (hj : j < 6) (ht : t < 3) : cell E μ (iTr j t) = .inl (E.2.2 0, 12, .inl (tr 12 (fun y => μ.1 j (tR t y)))) := by
  have h := tb_iTr j hj t ht
  unfold cell
  rw [h]
  simp [cellK, tD, tR, sF, Nat.add_assoc]
theorem c_iN (E : En) (μ : Mu) {j : Nat} {n : Nat} (hj : j < 6) (hn : n < 6) : cell E μ (iN j n) = .inr (3, fsN E μ j n) := by
  have h := tb_iN j hj n hn
  unfold cell
  rw [h]
  simp [cellK, tr, iN, iNl, iNs, iNr, sF, show 37 * j + 13 + 4 * n + 1 = 37 * j + 14 + 4 * n by omega, show 37 * j + 13 + 4 * n + 2 = 37 * j + 15 + 4 * n by omega, show 37 * j + 13 + 4 * n + 3 = 37 * j + 16 + 4 * n by omega]
theorem c_iNl (E : En) (μ : Mu) {j : Nat} {n : Nat} (hj : j < 6) (hn : n < 6) : cell E μ (iNl j n) = .inl (E.2.2 0, 4, .inl (tr 4 (fun y => μ.1 j (sF n (12 + y))))) := by
  have h := tb_iNl j hj n hn
  unfold cell
  rw [h]
  simp [cellK, tD, tR, sF, Nat.add_assoc]
theorem c_iNs (E : En) (μ : Mu) {j : Nat} {n : Nat} (hj : j < 6) (hn : n < 6) : cell E μ (iNs j n) = .inl (E.2.2 0, 3, .inl (tr 3 (fun y => μ.1 j (sF n (16 + y))))) := by
  have h := tb_iNs j hj n hn
  unfold cell
  rw [h]
  simp [cellK, tD, tR, sF, Nat.add_assoc]
theorem c_iNr (E : En) (μ : Mu) {j : Nat} {n : Nat} (hj : j < 6) (hn : n < 6) : cell E μ (iNr j n) = .inl (E.2.2 0, 9, .inl (tr 9 (fun y => μ.1 j (sF n (19 + y))))) := by
  have h := tb_iNr j hj n hn
  unfold cell
  rw [h]
  simp [cellK, tD, tR, sF, Nat.add_assoc]
theorem c_iM (E : En) (μ : Mu) {r : Nat} (hr : r < 3) : cell E μ (iM r) = .inr (1, fsM E μ r) := by
  have h := tb_iM r hr
  have h2 : jOf μ.2.1 (iM r) = μ.2.1 r := by unfold jOf jRow iM; rw [if_pos (by omega), if_neg (by omega), show 225 + r - 225 = r by omega]
  unfold cell
  rw [h, h2]
  rfl
theorem c_Hi (E : En) (μ : Mu) : cell E μ 222 = .inr (0, fsHi E μ) := by
  have h : tb 222 = (6, 6, 0, 1) := by decide +kernel
  unfold cell
  rw [h]
  simp [cellK, tr, tr]
theorem c_Hk (E : En) (μ : Mu) : cell E μ 223 = .inl (E.2.2 4, 4, .inr (.inr (.inr (.inr (fun y => if y < 4 then some (E.1 (iS (μ.2.2 y))) else none))))) := rfl
theorem c_Me (E : En) (μ : Mu) : cell E μ 224 = .inr (2, fsMe E μ) := by
  have h : tb 224 = (8, 6, 1, 2) := by decide +kernel
  unfold cell
  rw [h]
  simp [cellK, tr, jOf, jRow, iM]
theorem c_Tx (E : En) (μ : Mu) : cell E μ 228 = .inr (6, fsTx E μ) := by
  have h : tb 228 = (10, 6, 3, 5) := by decide +kernel
  unfold cell
  rw [h]
  simp [cellK, tr, tr]
theorem c_O (E : En) (μ : Mu) : cell E μ 231 = .inr (7, fsO E μ) := by
  have h : tb 231 = (12, 6, 77, 3) := by decide +kernel
  unfold cell
  rw [h]
  simp [cellK, tr, iS, iM]
theorem c_Tc (E : En) (μ : Mu) : cell E μ 229 = .inl (E.2.2 1, 60, .inl (tr 60 (fun y => μ.1 6 (8 + y)))) := by
  have h : tb 229 = (11, 6, 8, 60) := by decide +kernel
  unfold cell
  rw [h]
  simp [cellK]
theorem c_So (E : En) (μ : Mu) : cell E μ 230 = .inl (E.2.2 0, 9, .inl (tr 9 (fun y => μ.1 6 (68 + y)))) := by
  have h : tb 230 = (3, 6, 68, 9) := by decide +kernel
  unfold cell
  rw [h]
  simp [cellK]
theorem s_S_0 (E : En) (μ : Mu) {j : Nat} (hj : j < 6) (v : Int32) : (wsA E μ).set (iS j) (E.1 (iS j), .inr (4, (fsS E μ j).set 0 (.int v))) = wsA E (pM μ j 0 v) := by
  have h := tb_iS j hj
  refine wsA_pM E μ (lt_iS hj) (by rw [h]) (by rw [h];  show _ ≤ _; simp only [tN, sF, tD, tR]; omega) (by rw [h];  show _ < _; simp only [tN, sF, tD, tR]; omega) ?_
  rw [c_iS E _ hj]
  simp [pM, upM, tN, sF]
theorem s_S_1 (E : En) (μ : Mu) {j : Nat} (hj : j < 6) (v : Int32) : (wsA E μ).set (iS j) (E.1 (iS j), .inr (4, (fsS E μ j).set 1 (.int v))) = wsA E (pM μ j 1 v) := by
  have h := tb_iS j hj
  refine wsA_pM E μ (lt_iS hj) (by rw [h]) (by rw [h];  show _ ≤ _; simp only [tN, sF, tD, tR]; omega) (by rw [h];  show _ < _; simp only [tN, sF, tD, tR]; omega) ?_
  rw [c_iS E _ hj]
  simp [pM, upM, tN, sF]
theorem s_S_2 (E : En) (μ : Mu) {j : Nat} (hj : j < 6) (v : Int32) : (wsA E μ).set (iS j) (E.1 (iS j), .inr (4, (fsS E μ j).set 2 (.int v))) = wsA E (pM μ j 2 v) := by
  have h := tb_iS j hj
  refine wsA_pM E μ (lt_iS hj) (by rw [h]) (by rw [h];  show _ ≤ _; simp only [tN, sF, tD, tR]; omega) (by rw [h];  show _ < _; simp only [tN, sF, tD, tR]; omega) ?_
  rw [c_iS E _ hj]
  simp [pM, upM, tN, sF]
theorem s_T_0 (E : En) (μ : Mu) {j : Nat} {t : Nat} (hj : j < 6) (ht : t < 3) (v : Int32) : (wsA E μ).set (iT j t) (E.1 (iT j t), .inr (5, (fsT E μ j t).set 0 (.int v))) = wsA E (pM μ j (tN t) v) := by
  have h := tb_iT j hj t ht
  refine wsA_pM E μ (lt_iT hj ht) (by rw [h]) (by rw [h];  show _ ≤ _; simp only [tN, sF, tD, tR]; omega) (by rw [h];  show _ < _; simp only [tN, sF, tD, tR]; omega) ?_
  rw [c_iT E _ hj ht]
  simp [pM, upM, tN, sF]
theorem s_N_0 (E : En) (μ : Mu) {j : Nat} {n : Nat} (hj : j < 6) (hn : n < 6) (v : Int32) : (wsA E μ).set (iN j n) (E.1 (iN j n), .inr (3, (fsN E μ j n).set 0 (.int v))) = wsA E (pM μ j (sF n 0) v) := by
  have h := tb_iN j hj n hn
  refine wsA_pM E μ (lt_iN hj hn) (by rw [h]) (by rw [h];  show _ ≤ _; simp only [tN, sF, tD, tR]; omega) (by rw [h];  show _ < _; simp only [tN, sF, tD, tR]; omega) ?_
  rw [c_iN E _ hj hn]
  simp [pM, upM, tN, sF]
theorem s_N_1 (E : En) (μ : Mu) {j : Nat} {n : Nat} (hj : j < 6) (hn : n < 6) (v : Int32) : (wsA E μ).set (iN j n) (E.1 (iN j n), .inr (3, (fsN E μ j n).set 1 (.int v))) = wsA E (pM μ j (sF n 1) v) := by
  have h := tb_iN j hj n hn
  refine wsA_pM E μ (lt_iN hj hn) (by rw [h]) (by rw [h];  show _ ≤ _; simp only [tN, sF, tD, tR]; omega) (by rw [h];  show _ < _; simp only [tN, sF, tD, tR]; omega) ?_
  rw [c_iN E _ hj hn]
  simp [pM, upM, tN, sF]
theorem s_N_2 (E : En) (μ : Mu) {j : Nat} {n : Nat} (hj : j < 6) (hn : n < 6) (v : Int32) : (wsA E μ).set (iN j n) (E.1 (iN j n), .inr (3, (fsN E μ j n).set 2 (.int v))) = wsA E (pM μ j (sF n 2) v) := by
  have h := tb_iN j hj n hn
  refine wsA_pM E μ (lt_iN hj hn) (by rw [h]) (by rw [h];  show _ ≤ _; simp only [tN, sF, tD, tR]; omega) (by rw [h];  show _ < _; simp only [tN, sF, tD, tR]; omega) ?_
  rw [c_iN E _ hj hn]
  simp [pM, upM, tN, sF]
theorem s_N_3 (E : En) (μ : Mu) {j : Nat} {n : Nat} (hj : j < 6) (hn : n < 6) (v : Int32) : (wsA E μ).set (iN j n) (E.1 (iN j n), .inr (3, (fsN E μ j n).set 3 (.int v))) = wsA E (pM μ j (sF n 3) v) := by
  have h := tb_iN j hj n hn
  refine wsA_pM E μ (lt_iN hj hn) (by rw [h]) (by rw [h];  show _ ≤ _; simp only [tN, sF, tD, tR]; omega) (by rw [h];  show _ < _; simp only [tN, sF, tD, tR]; omega) ?_
  rw [c_iN E _ hj hn]
  simp [pM, upM, tN, sF]
theorem s_N_4 (E : En) (μ : Mu) {j : Nat} {n : Nat} (hj : j < 6) (hn : n < 6) (v : Int32) : (wsA E μ).set (iN j n) (E.1 (iN j n), .inr (3, (fsN E μ j n).set 4 (.int v))) = wsA E (pM μ j (sF n 4) v) := by
  have h := tb_iN j hj n hn
  refine wsA_pM E μ (lt_iN hj hn) (by rw [h]) (by rw [h];  show _ ≤ _; simp only [tN, sF, tD, tR]; omega) (by rw [h];  show _ < _; simp only [tN, sF, tD, tR]; omega) ?_
  rw [c_iN E _ hj hn]
  simp [pM, upM, tN, sF]
theorem s_N_5 (E : En) (μ : Mu) {j : Nat} {n : Nat} (hj : j < 6) (hn : n < 6) (v : Int32) : (wsA E μ).set (iN j n) (E.1 (iN j n), .inr (3, (fsN E μ j n).set 5 (.int v))) = wsA E (pM μ j (sF n 5) v) := by
  have h := tb_iN j hj n hn
  refine wsA_pM E μ (lt_iN hj hn) (by rw [h]) (by rw [h];  show _ ≤ _; simp only [tN, sF, tD, tR]; omega) (by rw [h];  show _ < _; simp only [tN, sF, tD, tR]; omega) ?_
  rw [c_iN E _ hj hn]
  simp [pM, upM, tN, sF]
theorem s_N_6 (E : En) (μ : Mu) {j : Nat} {n : Nat} (hj : j < 6) (hn : n < 6) (v : Int32) : (wsA E μ).set (iN j n) (E.1 (iN j n), .inr (3, (fsN E μ j n).set 6 (.int v))) = wsA E (pM μ j (sF n 6) v) := by
  have h := tb_iN j hj n hn
  refine wsA_pM E μ (lt_iN hj hn) (by rw [h]) (by rw [h];  show _ ≤ _; simp only [tN, sF, tD, tR]; omega) (by rw [h];  show _ < _; simp only [tN, sF, tD, tR]; omega) ?_
  rw [c_iN E _ hj hn]
  simp [pM, upM, tN, sF]
theorem s_N_7 (E : En) (μ : Mu) {j : Nat} {n : Nat} (hj : j < 6) (hn : n < 6) (v : Int32) : (wsA E μ).set (iN j n) (E.1 (iN j n), .inr (3, (fsN E μ j n).set 7 (.int v))) = wsA E (pM μ j (sF n 7) v) := by
  have h := tb_iN j hj n hn
  refine wsA_pM E μ (lt_iN hj hn) (by rw [h]) (by rw [h];  show _ ≤ _; simp only [tN, sF, tD, tR]; omega) (by rw [h];  show _ < _; simp only [tN, sF, tD, tR]; omega) ?_
  rw [c_iN E _ hj hn]
  simp [pM, upM, tN, sF]
theorem s_N_8 (E : En) (μ : Mu) {j : Nat} {n : Nat} (hj : j < 6) (hn : n < 6) (v : Int32) : (wsA E μ).set (iN j n) (E.1 (iN j n), .inr (3, (fsN E μ j n).set 8 (.int v))) = wsA E (pM μ j (sF n 8) v) := by
  have h := tb_iN j hj n hn
  refine wsA_pM E μ (lt_iN hj hn) (by rw [h]) (by rw [h];  show _ ≤ _; simp only [tN, sF, tD, tR]; omega) (by rw [h];  show _ < _; simp only [tN, sF, tD, tR]; omega) ?_
  rw [c_iN E _ hj hn]
  simp [pM, upM, tN, sF]
theorem s_N_9 (E : En) (μ : Mu) {j : Nat} {n : Nat} (hj : j < 6) (hn : n < 6) (v : Int32) : (wsA E μ).set (iN j n) (E.1 (iN j n), .inr (3, (fsN E μ j n).set 9 (.int v))) = wsA E (pM μ j (sF n 9) v) := by
  have h := tb_iN j hj n hn
  refine wsA_pM E μ (lt_iN hj hn) (by rw [h]) (by rw [h];  show _ ≤ _; simp only [tN, sF, tD, tR]; omega) (by rw [h];  show _ < _; simp only [tN, sF, tD, tR]; omega) ?_
  rw [c_iN E _ hj hn]
  simp [pM, upM, tN, sF]
theorem s_N_10 (E : En) (μ : Mu) {j : Nat} {n : Nat} (hj : j < 6) (hn : n < 6) (v : Int32) : (wsA E μ).set (iN j n) (E.1 (iN j n), .inr (3, (fsN E μ j n).set 10 (.int v))) = wsA E (pM μ j (sF n 10) v) := by
  have h := tb_iN j hj n hn
  refine wsA_pM E μ (lt_iN hj hn) (by rw [h]) (by rw [h];  show _ ≤ _; simp only [tN, sF, tD, tR]; omega) (by rw [h];  show _ < _; simp only [tN, sF, tD, tR]; omega) ?_
  rw [c_iN E _ hj hn]
  simp [pM, upM, tN, sF]
theorem s_N_11 (E : En) (μ : Mu) {j : Nat} {n : Nat} (hj : j < 6) (hn : n < 6) (v : Int32) : (wsA E μ).set (iN j n) (E.1 (iN j n), .inr (3, (fsN E μ j n).set 11 (.int v))) = wsA E (pM μ j (sF n 11) v) := by
  have h := tb_iN j hj n hn
  refine wsA_pM E μ (lt_iN hj hn) (by rw [h]) (by rw [h];  show _ ≤ _; simp only [tN, sF, tD, tR]; omega) (by rw [h];  show _ < _; simp only [tN, sF, tD, tR]; omega) ?_
  rw [c_iN E _ hj hn]
  simp [pM, upM, tN, sF]
theorem s_Hi_0 (E : En) (μ : Mu)   (v : Int32) : (wsA E μ).set (222) (E.1 (222), .inr (0, (fsHi E μ).set 0 (.int v))) = wsA E (pM μ 6 0 v) := by
  have h := (show tb 222 = (6, 6, 0, 1) by decide +kernel)
  refine wsA_pM E μ (by decide) (by rw [h]) (by rw [h]; show _ ≤ _; decide) (by rw [h]; show _ < _; decide) ?_
  rw [c_Hi]
  simp [pM, upM, tN, sF]
theorem s_Me_3 (E : En) (μ : Mu)   (v : Int32) : (wsA E μ).set (224) (E.1 (224), .inr (2, (fsMe E μ).set 3 (.int v))) = wsA E (pM μ 6 1 v) := by
  have h := (show tb 224 = (8, 6, 1, 2) by decide +kernel)
  refine wsA_pM E μ (by decide) (by rw [h]) (by rw [h]; show _ ≤ _; decide) (by rw [h]; show _ < _; decide) ?_
  rw [c_Me]
  simp [pM, upM, tN, sF]
theorem s_Me_4 (E : En) (μ : Mu)   (v : Int32) : (wsA E μ).set (224) (E.1 (224), .inr (2, (fsMe E μ).set 4 (.int v))) = wsA E (pM μ 6 2 v) := by
  have h := (show tb 224 = (8, 6, 1, 2) by decide +kernel)
  refine wsA_pM E μ (by decide) (by rw [h]) (by rw [h]; show _ ≤ _; decide) (by rw [h]; show _ < _; decide) ?_
  rw [c_Me]
  simp [pM, upM, tN, sF]
theorem s_Tx_0 (E : En) (μ : Mu)   (v : Int32) : (wsA E μ).set (228) (E.1 (228), .inr (6, (fsTx E μ).set 0 (.int v))) = wsA E (pM μ 6 3 v) := by
  have h := (show tb 228 = (10, 6, 3, 5) by decide +kernel)
  refine wsA_pM E μ (by decide) (by rw [h]) (by rw [h]; show _ ≤ _; decide) (by rw [h]; show _ < _; decide) ?_
  rw [c_Tx]
  simp [pM, upM, tN, sF]
theorem s_Tx_1 (E : En) (μ : Mu)   (v : Int32) : (wsA E μ).set (228) (E.1 (228), .inr (6, (fsTx E μ).set 1 (.int v))) = wsA E (pM μ 6 4 v) := by
  have h := (show tb 228 = (10, 6, 3, 5) by decide +kernel)
  refine wsA_pM E μ (by decide) (by rw [h]) (by rw [h]; show _ ≤ _; decide) (by rw [h]; show _ < _; decide) ?_
  rw [c_Tx]
  simp [pM, upM, tN, sF]
theorem s_Tx_2 (E : En) (μ : Mu)   (v : Int32) : (wsA E μ).set (228) (E.1 (228), .inr (6, (fsTx E μ).set 2 (.int v))) = wsA E (pM μ 6 5 v) := by
  have h := (show tb 228 = (10, 6, 3, 5) by decide +kernel)
  refine wsA_pM E μ (by decide) (by rw [h]) (by rw [h]; show _ ≤ _; decide) (by rw [h]; show _ < _; decide) ?_
  rw [c_Tx]
  simp [pM, upM, tN, sF]
theorem s_Tx_3 (E : En) (μ : Mu)   (v : Int32) : (wsA E μ).set (228) (E.1 (228), .inr (6, (fsTx E μ).set 3 (.int v))) = wsA E (pM μ 6 6 v) := by
  have h := (show tb 228 = (10, 6, 3, 5) by decide +kernel)
  refine wsA_pM E μ (by decide) (by rw [h]) (by rw [h]; show _ ≤ _; decide) (by rw [h]; show _ < _; decide) ?_
  rw [c_Tx]
  simp [pM, upM, tN, sF]
theorem s_Tx_4 (E : En) (μ : Mu)   (v : Int32) : (wsA E μ).set (228) (E.1 (228), .inr (6, (fsTx E μ).set 4 (.int v))) = wsA E (pM μ 6 7 v) := by
  have h := (show tb 228 = (10, 6, 3, 5) by decide +kernel)
  refine wsA_pM E μ (by decide) (by rw [h]) (by rw [h]; show _ ≤ _; decide) (by rw [h]; show _ < _; decide) ?_
  rw [c_Tx]
  simp [pM, upM, tN, sF]
theorem s_O_7 (E : En) (μ : Mu)   (v : Int32) : (wsA E μ).set (231) (E.1 (231), .inr (7, (fsO E μ).set 7 (.int v))) = wsA E (pM μ 6 77 v) := by
  have h := (show tb 231 = (12, 6, 77, 3) by decide +kernel)
  refine wsA_pM E μ (by decide) (by rw [h]) (by rw [h]; show _ ≤ _; decide) (by rw [h]; show _ < _; decide) ?_
  rw [c_O]
  simp [pM, upM, tN, sF]
theorem s_O_8 (E : En) (μ : Mu)   (v : Int32) : (wsA E μ).set (231) (E.1 (231), .inr (7, (fsO E μ).set 8 (.int v))) = wsA E (pM μ 6 78 v) := by
  have h := (show tb 231 = (12, 6, 77, 3) by decide +kernel)
  refine wsA_pM E μ (by decide) (by rw [h]) (by rw [h]; show _ ≤ _; decide) (by rw [h]; show _ < _; decide) ?_
  rw [c_O]
  simp [pM, upM, tN, sF]
theorem s_O_9 (E : En) (μ : Mu)   (v : Int32) : (wsA E μ).set (231) (E.1 (231), .inr (7, (fsO E μ).set 9 (.int v))) = wsA E (pM μ 6 79 v) := by
  have h := (show tb 231 = (12, 6, 77, 3) by decide +kernel)
  refine wsA_pM E μ (by decide) (by rw [h]) (by rw [h]; show _ ≤ _; decide) (by rw [h]; show _ < _; decide) ?_
  rw [c_O]
  simp [pM, upM, tN, sF]
theorem s_M_0 (E : En) (μ : Mu) {r : Nat} (hr : r < 3) (v : Int64) : (wsA E μ).set (iM r) (E.1 (iM r), .inr (1, (fsM E μ r).set 0 (.long v))) = wsA E (pJ μ r 0 v) := by
  refine wsA_set E μ _ (lt_iM hr) ?_ (fun k hk hne => cell_J E μ (fun y => ?_))
  · rw [c_iM E _ hr]; simp [pJ, upJ]
  · unfold jOf jRow upJ; unfold iM at hne; by_cases h1 : 224 ≤ k ∧ k < 228
    · rw [if_pos h1, if_pos h1]
      show _ = if _ ∧ _ then _ else _
      have hq : (if k = 224 then 3 else k - 225) ≠ r := by split <;> omega
      exact (if_neg (fun q => hq q.1)).symm
    · rw [if_neg h1, if_neg h1]
theorem s_M_1 (E : En) (μ : Mu) {r : Nat} (hr : r < 3) (v : Int64) : (wsA E μ).set (iM r) (E.1 (iM r), .inr (1, (fsM E μ r).set 1 (.long v))) = wsA E (pJ μ r 1 v) := by
  refine wsA_set E μ _ (lt_iM hr) ?_ (fun k hk hne => cell_J E μ (fun y => ?_))
  · rw [c_iM E _ hr]; simp [pJ, upJ]
  · unfold jOf jRow upJ; unfold iM at hne; by_cases h1 : 224 ≤ k ∧ k < 228
    · rw [if_pos h1, if_pos h1]
      show _ = if _ ∧ _ then _ else _
      have hq : (if k = 224 then 3 else k - 225) ≠ r := by split <;> omega
      exact (if_neg (fun q => hq q.1)).symm
    · rw [if_neg h1, if_neg h1]
theorem s_M_2 (E : En) (μ : Mu) {r : Nat} (hr : r < 3) (v : Int64) : (wsA E μ).set (iM r) (E.1 (iM r), .inr (1, (fsM E μ r).set 2 (.long v))) = wsA E (pJ μ r 2 v) := by
  refine wsA_set E μ _ (lt_iM hr) ?_ (fun k hk hne => cell_J E μ (fun y => ?_))
  · rw [c_iM E _ hr]; simp [pJ, upJ]
  · unfold jOf jRow upJ; unfold iM at hne; by_cases h1 : 224 ≤ k ∧ k < 228
    · rw [if_pos h1, if_pos h1]
      show _ = if _ ∧ _ then _ else _
      have hq : (if k = 224 then 3 else k - 225) ≠ r := by split <;> omega
      exact (if_neg (fun q => hq q.1)).symm
    · rw [if_neg h1, if_neg h1]
theorem s_M_3 (E : En) (μ : Mu) {r : Nat} (hr : r < 3) (v : Int64) : (wsA E μ).set (iM r) (E.1 (iM r), .inr (1, (fsM E μ r).set 3 (.long v))) = wsA E (pJ μ r 3 v) := by
  refine wsA_set E μ _ (lt_iM hr) ?_ (fun k hk hne => cell_J E μ (fun y => ?_))
  · rw [c_iM E _ hr]; simp [pJ, upJ]
  · unfold jOf jRow upJ; unfold iM at hne; by_cases h1 : 224 ≤ k ∧ k < 228
    · rw [if_pos h1, if_pos h1]
      show _ = if _ ∧ _ then _ else _
      have hq : (if k = 224 then 3 else k - 225) ≠ r := by split <;> omega
      exact (if_neg (fun q => hq q.1)).symm
    · rw [if_neg h1, if_neg h1]
theorem s_M_4 (E : En) (μ : Mu) {r : Nat} (hr : r < 3) (v : Int64) : (wsA E μ).set (iM r) (E.1 (iM r), .inr (1, (fsM E μ r).set 4 (.long v))) = wsA E (pJ μ r 4 v) := by
  refine wsA_set E μ _ (lt_iM hr) ?_ (fun k hk hne => cell_J E μ (fun y => ?_))
  · rw [c_iM E _ hr]; simp [pJ, upJ]
  · unfold jOf jRow upJ; unfold iM at hne; by_cases h1 : 224 ≤ k ∧ k < 228
    · rw [if_pos h1, if_pos h1]
      show _ = if _ ∧ _ then _ else _
      have hq : (if k = 224 then 3 else k - 225) ≠ r := by split <;> omega
      exact (if_neg (fun q => hq q.1)).symm
    · rw [if_neg h1, if_neg h1]
theorem s_M_5 (E : En) (μ : Mu) {r : Nat} (hr : r < 3) (v : Int64) : (wsA E μ).set (iM r) (E.1 (iM r), .inr (1, (fsM E μ r).set 5 (.long v))) = wsA E (pJ μ r 5 v) := by
  refine wsA_set E μ _ (lt_iM hr) ?_ (fun k hk hne => cell_J E μ (fun y => ?_))
  · rw [c_iM E _ hr]; simp [pJ, upJ]
  · unfold jOf jRow upJ; unfold iM at hne; by_cases h1 : 224 ≤ k ∧ k < 228
    · rw [if_pos h1, if_pos h1]
      show _ = if _ ∧ _ then _ else _
      have hq : (if k = 224 then 3 else k - 225) ≠ r := by split <;> omega
      exact (if_neg (fun q => hq q.1)).symm
    · rw [if_neg h1, if_neg h1]
theorem s_M_6 (E : En) (μ : Mu) {r : Nat} (hr : r < 3) (v : Int64) : (wsA E μ).set (iM r) (E.1 (iM r), .inr (1, (fsM E μ r).set 6 (.long v))) = wsA E (pJ μ r 6 v) := by
  refine wsA_set E μ _ (lt_iM hr) ?_ (fun k hk hne => cell_J E μ (fun y => ?_))
  · rw [c_iM E _ hr]; simp [pJ, upJ]
  · unfold jOf jRow upJ; unfold iM at hne; by_cases h1 : 224 ≤ k ∧ k < 228
    · rw [if_pos h1, if_pos h1]
      show _ = if _ ∧ _ then _ else _
      have hq : (if k = 224 then 3 else k - 225) ≠ r := by split <;> omega
      exact (if_neg (fun q => hq q.1)).symm
    · rw [if_neg h1, if_neg h1]
theorem s_M_7 (E : En) (μ : Mu) {r : Nat} (hr : r < 3) (v : Int64) : (wsA E μ).set (iM r) (E.1 (iM r), .inr (1, (fsM E μ r).set 7 (.long v))) = wsA E (pJ μ r 7 v) := by
  refine wsA_set E μ _ (lt_iM hr) ?_ (fun k hk hne => cell_J E μ (fun y => ?_))
  · rw [c_iM E _ hr]; simp [pJ, upJ]
  · unfold jOf jRow upJ; unfold iM at hne; by_cases h1 : 224 ≤ k ∧ k < 228
    · rw [if_pos h1, if_pos h1]
      show _ = if _ ∧ _ then _ else _
      have hq : (if k = 224 then 3 else k - 225) ≠ r := by split <;> omega
      exact (if_neg (fun q => hq q.1)).symm
    · rw [if_neg h1, if_neg h1]
theorem s_M_8 (E : En) (μ : Mu) {r : Nat} (hr : r < 3) (v : Int64) : (wsA E μ).set (iM r) (E.1 (iM r), .inr (1, (fsM E μ r).set 8 (.long v))) = wsA E (pJ μ r 8 v) := by
  refine wsA_set E μ _ (lt_iM hr) ?_ (fun k hk hne => cell_J E μ (fun y => ?_))
  · rw [c_iM E _ hr]; simp [pJ, upJ]
  · unfold jOf jRow upJ; unfold iM at hne; by_cases h1 : 224 ≤ k ∧ k < 228
    · rw [if_pos h1, if_pos h1]
      show _ = if _ ∧ _ then _ else _
      have hq : (if k = 224 then 3 else k - 225) ≠ r := by split <;> omega
      exact (if_neg (fun q => hq q.1)).symm
    · rw [if_neg h1, if_neg h1]
theorem s_M_9 (E : En) (μ : Mu) {r : Nat} (hr : r < 3) (v : Int64) : (wsA E μ).set (iM r) (E.1 (iM r), .inr (1, (fsM E μ r).set 9 (.long v))) = wsA E (pJ μ r 9 v) := by
  refine wsA_set E μ _ (lt_iM hr) ?_ (fun k hk hne => cell_J E μ (fun y => ?_))
  · rw [c_iM E _ hr]; simp [pJ, upJ]
  · unfold jOf jRow upJ; unfold iM at hne; by_cases h1 : 224 ≤ k ∧ k < 228
    · rw [if_pos h1, if_pos h1]
      show _ = if _ ∧ _ then _ else _
      have hq : (if k = 224 then 3 else k - 225) ≠ r := by split <;> omega
      exact (if_neg (fun q => hq q.1)).symm
    · rw [if_neg h1, if_neg h1]
theorem s_M_10 (E : En) (μ : Mu) {r : Nat} (hr : r < 3) (v : Int64) : (wsA E μ).set (iM r) (E.1 (iM r), .inr (1, (fsM E μ r).set 10 (.long v))) = wsA E (pJ μ r 10 v) := by
  refine wsA_set E μ _ (lt_iM hr) ?_ (fun k hk hne => cell_J E μ (fun y => ?_))
  · rw [c_iM E _ hr]; simp [pJ, upJ]
  · unfold jOf jRow upJ; unfold iM at hne; by_cases h1 : 224 ≤ k ∧ k < 228
    · rw [if_pos h1, if_pos h1]
      show _ = if _ ∧ _ then _ else _
      have hq : (if k = 224 then 3 else k - 225) ≠ r := by split <;> omega
      exact (if_neg (fun q => hq q.1)).symm
    · rw [if_neg h1, if_neg h1]
theorem s_Me_2 (E : En) (μ : Mu) (v : Int64) : (wsA E μ).set 224 (E.1 224, .inr (2, (fsMe E μ).set 2 (.long v))) = wsA E (pJ μ 3 0 v) := by
  refine wsA_set E μ _ (by decide) ?_ (fun k hk hne => cell_J E μ (fun y => ?_))
  · rw [c_Me]; simp [pJ, upJ]
  · unfold jOf jRow upJ; by_cases h1 : 224 ≤ k ∧ k < 228
    · rw [if_pos h1, if_pos h1]
      show _ = if _ ∧ _ then _ else _
      have hq : (if k = 224 then 3 else k - 225) ≠ 3 := by split <;> omega
      exact (if_neg (fun q => hq q.1)).symm
    · rw [if_neg h1, if_neg h1]
theorem s_iSe (E : En) (μ : Mu) {j : Nat} (hj : j < 6) {x : Nat} (hx : x < 7) (v : Int32) : (wsA E μ).set (iSe j) (E.1 (iSe j), .inl (E.2.2 0, 7, .inl (upd (tr 7 (fun y => μ.1 j (3 + y))) x v))) = wsA E (pM μ j (3 + x) v) := by
  have h := tb_iSe j hj
  refine wsA_pM E μ (lt_iSe hj) (by rw [h]) (by rw [h]; show _ ≤ _; simp only [sF, tD, tR]; omega) (by rw [h]; show _ < _; simp only [sF, tD, tR]; omega) ?_
  rw [c_iSe E _ hj, tr_upd hx]
  congr 4
  funext y
  simp [pM, upM, sF, tD, tR]
theorem s_iTt (E : En) (μ : Mu) {j : Nat} {t : Nat} (hj : j < 6) (ht : t < 3) {x : Nat} (hx : x < 12) (v : Int32) : (wsA E μ).set (iTt j t) (E.1 (iTt j t), .inl (E.2.2 0, 12, .inl (upd (tr 12 (fun y => μ.1 j (tD t y))) x v))) = wsA E (pM μ j (tD t x) v) := by
  have h := tb_iTt j hj t ht
  refine wsA_pM E μ (lt_iTt hj ht) (by rw [h]) (by rw [h]; show _ ≤ _; simp only [sF, tD, tR]; omega) (by rw [h]; show _ < _; simp only [sF, tD, tR]; omega) ?_
  rw [c_iTt E _ hj ht, tr_upd hx]
  congr 4
  funext y
  simp [pM, upM, sF, tD, tR]
theorem s_iTr (E : En) (μ : Mu) {j : Nat} {t : Nat} (hj : j < 6) (ht : t < 3) {x : Nat} (hx : x < 12) (v : Int32) : (wsA E μ).set (iTr j t) (E.1 (iTr j t), .inl (E.2.2 0, 12, .inl (upd (tr 12 (fun y => μ.1 j (tR t y))) x v))) = wsA E (pM μ j (tR t x) v) := by
  have h := tb_iTr j hj t ht
  refine wsA_pM E μ (lt_iTr hj ht) (by rw [h]) (by rw [h]; show _ ≤ _; simp only [sF, tD, tR]; omega) (by rw [h]; show _ < _; simp only [sF, tD, tR]; omega) ?_
  rw [c_iTr E _ hj ht, tr_upd hx]
  congr 4
  funext y
  simp [pM, upM, sF, tD, tR]
theorem s_iNl (E : En) (μ : Mu) {j : Nat} {n : Nat} (hj : j < 6) (hn : n < 6) {x : Nat} (hx : x < 4) (v : Int32) : (wsA E μ).set (iNl j n) (E.1 (iNl j n), .inl (E.2.2 0, 4, .inl (upd (tr 4 (fun y => μ.1 j (sF n (12 + y)))) x v))) = wsA E (pM μ j (sF n (12 + x)) v) := by
  have h := tb_iNl j hj n hn
  refine wsA_pM E μ (lt_iNl hj hn) (by rw [h]) (by rw [h]; show _ ≤ _; simp only [sF, tD, tR]; omega) (by rw [h]; show _ < _; simp only [sF, tD, tR]; omega) ?_
  rw [c_iNl E _ hj hn, tr_upd hx]
  congr 4
  funext y
  simp [pM, upM, sF, tD, tR]
theorem s_iNs (E : En) (μ : Mu) {j : Nat} {n : Nat} (hj : j < 6) (hn : n < 6) {x : Nat} (hx : x < 3) (v : Int32) : (wsA E μ).set (iNs j n) (E.1 (iNs j n), .inl (E.2.2 0, 3, .inl (upd (tr 3 (fun y => μ.1 j (sF n (16 + y)))) x v))) = wsA E (pM μ j (sF n (16 + x)) v) := by
  have h := tb_iNs j hj n hn
  refine wsA_pM E μ (lt_iNs hj hn) (by rw [h]) (by rw [h]; show _ ≤ _; simp only [sF, tD, tR]; omega) (by rw [h]; show _ < _; simp only [sF, tD, tR]; omega) ?_
  rw [c_iNs E _ hj hn, tr_upd hx]
  congr 4
  funext y
  simp [pM, upM, sF, tD, tR]
theorem s_iNr (E : En) (μ : Mu) {j : Nat} {n : Nat} (hj : j < 6) (hn : n < 6) {x : Nat} (hx : x < 9) (v : Int32) : (wsA E μ).set (iNr j n) (E.1 (iNr j n), .inl (E.2.2 0, 9, .inl (upd (tr 9 (fun y => μ.1 j (sF n (19 + y)))) x v))) = wsA E (pM μ j (sF n (19 + x)) v) := by
  have h := tb_iNr j hj n hn
  refine wsA_pM E μ (lt_iNr hj hn) (by rw [h]) (by rw [h]; show _ ≤ _; simp only [sF, tD, tR]; omega) (by rw [h]; show _ < _; simp only [sF, tD, tR]; omega) ?_
  rw [c_iNr E _ hj hn, tr_upd hx]
  congr 4
  funext y
  simp [pM, upM, sF, tD, tR]
theorem s_Tc (E : En) (μ : Mu)   {x : Nat} (hx : x < 60) (v : Int32) : (wsA E μ).set 229 (E.1 229, .inl (E.2.2 1, 60, .inl (upd (tr 60 (fun y => μ.1 6 (8 + y))) x v))) = wsA E (pM μ 6 (8 + x) v) := by
  have h := (show tb 229 = (11, 6, 8, 60) by decide +kernel)
  refine wsA_pM E μ (by decide) (by rw [h]) (by rw [h]; show _ ≤ _; simp only [sF, tD, tR]; omega) (by rw [h]; show _ < _; simp only [sF, tD, tR]; omega) ?_
  rw [c_Tc, tr_upd hx]
  congr 4
  funext y
  simp [pM, upM, sF, tD, tR]
theorem s_So (E : En) (μ : Mu)   {x : Nat} (hx : x < 9) (v : Int32) : (wsA E μ).set 230 (E.1 230, .inl (E.2.2 0, 9, .inl (upd (tr 9 (fun y => μ.1 6 (68 + y))) x v))) = wsA E (pM μ 6 (68 + x) v) := by
  have h := (show tb 230 = (3, 6, 68, 9) by decide +kernel)
  refine wsA_pM E μ (by decide) (by rw [h]) (by rw [h]; show _ ≤ _; simp only [sF, tD, tR]; omega) (by rw [h]; show _ < _; simp only [sF, tD, tR]; omega) ?_
  rw [c_So, tr_upd hx]
  congr 4
  funext y
  simp [pM, upM, sF, tD, tR]
theorem s_Hk (E : En) (μ : Mu) {x : Nat} (hx : x < 4) (w : Nat) : (wsA E μ).set 223 (E.1 223, .inl (E.2.2 4, 4, .inr (.inr (.inr (.inr (va_up (fun y => if y < 4 then some (E.1 (iS (μ.2.2 y))) else none) x (some (E.1 (iS w)))))))) ) = wsA E (pK μ x w) := by
  refine wsA_set E μ _ (by decide) ?_ (fun k hk hne => ?_)
  · rw [c_Hk]
    have hf : (va_up (fun y => if y < 4 then some (E.1 (iS (μ.2.2 y))) else none) x (some (E.1 (iS w)))) = (fun y => if y < 4 then some (E.1 (iS ((pK μ x w).2.2 y))) else none) := by
      funext y
      unfold va_up pK va_up
      by_cases hy : y = x
      · subst hy; simp [hx]
      · simp [hy]
    rw [hf]
  · unfold cell
    rw [show kOf μ.2.2 k = kOf (pK μ x w).2.2 k by unfold kOf; rw [if_neg hne, if_neg hne]]
    rfl
