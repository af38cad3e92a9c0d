/-! ===== the world at the start ===== -/
def S0 (y : Nat) : Int32 := if y = 2 then -1 else if 3 ≤ y ∧ y < 10 then zl4.getD (y - 3) 0 else if 85 ≤ y ∧ (y - 85) % 28 = 6 then -1 else 0
def μ0 : Mu := (fun c y => if c < 6 then S0 y else 0, fun _ _ => 0, fun y => 2 + y)
theorem S0t {x : Nat} (h1 : 10 ≤ x) (h2 : x < 85) : S0 x = 0 := by
  unfold S0
  rw [if_neg (by omega), if_neg (by omega), if_neg (by omega)]
theorem S0s {n f : Nat} (hf : f < 28) (h : f ≠ 6) : S0 (sF n f) = 0 := by
  unfold S0 sF
  rw [if_neg (by omega), if_neg (by omega), if_neg (by omega)]
theorem S06 {n : Nat} : S0 (sF n 6) = -1 := by
  unfold S0 sF
  rw [if_neg (by omega), if_neg (by omega), if_pos (by omega)]
theorem m0S {j : Nat} (hj : j < 6) (x : Nat) : μ0.1 j x = S0 x := if_pos hj
theorem trz {n : Nat} {f : Nat → Int32} (h : ∀ y, y < n → f y = 0) : tr n f = fun _ => 0 := by
  funext y
  unfold tr
  by_cases c : y < n
  · rw [if_pos c]; exact h y c
  · rw [if_neg c]
theorem tr7 {j : Nat} (hj : j < 6) : tr 7 (fun y => μ0.1 j (3 + y)) = fun y => zl4.getD y 0 := by
  funext y
  unfold tr
  by_cases c : y < 7
  · rw [if_pos c]
    show μ0.1 j (3 + y) = _
    rw [m0S hj]
    unfold S0
    rw [if_neg (by omega), if_pos (by omega), show 3 + y - 3 = y by omega]
  · rw [if_neg c]
    obtain ⟨z, rfl⟩ : ∃ z, y = z + 7 := ⟨y - 7, by omega⟩
    rfl
section SC
variable {E E' : En} {e : Nat → Nat} {j : Nat}
theorem ca_eq {E : En} {i k : Nat} {x : va_E} (h : i = k) (hx : cell E μ0 k = x) : cell E μ0 i = x := by subst h; exact hx
theorem s_o (hj : j < 6) (he : ∀ r, r < 37 → E.1 (37 * j + r) = e r) : cell E μ0 (37 * j + 0) = .inr (4, [.int 0, .int 0, .int (-1), .ref (e 1), .ref (e 2), .ref (e 3)]) := by
  refine (c_iS E μ0 hj).trans ?_
  show Sum.inr (4, [Value.int (μ0.1 j 0), Value.int (μ0.1 j 1), Value.int (μ0.1 j 2), Value.ref (E.1 (37 * j + 1)), Value.ref (E.1 (37 * j + 2)), Value.ref (E.1 (37 * j + 3))]) = _
  rw [he 1 (by decide), he 2 (by decide), he 3 (by decide), m0S hj, m0S hj, m0S hj]
  rfl
theorem s_ts (hE : E.2 = E'.2) (hj : j < 6) (he : ∀ r, r < 37 → E.1 (37 * j + r) = e r) : cell E μ0 (37 * j + 1) = .inl (E'.2.2 2, 3, .inr (.inr (.inr (.inr (fun y => if y < 3 then some ([e 4, e 7, e 10].getD y 0) else none))))) := by
  refine (c_iTs E μ0 hj).trans ?_
  rw [← hE]
  refine congrArg (fun f => Sum.inl (E.2.2 2, 3, Sum.inr (Sum.inr (Sum.inr (Sum.inr f))))) ?_
  funext y
  match y with
  | 0 => exact congrArg some (he 4 (by decide))
  | 1 => exact congrArg some (he 7 (by decide))
  | 2 => exact congrArg some (he 10 (by decide))
  | y + 3 => rfl
theorem s_ss (hE : E.2 = E'.2) (hj : j < 6) (he : ∀ r, r < 37 → E.1 (37 * j + r) = e r) : cell E μ0 (37 * j + 2) = .inl (E'.2.2 3, 6, .inr (.inr (.inr (.inr (fun y => if y < 6 then some ([e 13, e 17, e 21, e 25, e 29, e 33].getD y 0) else none))))) := by
  refine (c_iSs E μ0 hj).trans ?_
  rw [← hE]
  refine congrArg (fun f => Sum.inl (E.2.2 3, 6, Sum.inr (Sum.inr (Sum.inr (Sum.inr f))))) ?_
  funext y
  match y with
  | 0 => exact congrArg some (he 13 (by decide))
  | 1 => exact congrArg some (he 17 (by decide))
  | 2 => exact congrArg some (he 21 (by decide))
  | 3 => exact congrArg some (he 25 (by decide))
  | 4 => exact congrArg some (he 29 (by decide))
  | 5 => exact congrArg some (he 33 (by decide))
  | y + 6 => rfl
theorem s_se (hE : E.2 = E'.2) (hj : j < 6) : cell E μ0 (37 * j + 3) = .inl (E'.2.2 0, 7, .inl (fun y => zl4.getD y 0)) := by
  refine (c_iSe E μ0 hj).trans ?_
  rw [tr7 hj, hE]
theorem s_t (hj : j < 6) {t : Nat} (ht : t < 3) (he : ∀ r, r < 37 → E.1 (37 * j + r) = e r) : cell E μ0 (37 * j + (4 + 3 * t)) = .inr (5, [.int 0, .ref (e (5 + 3 * t)), .ref (e (6 + 3 * t))]) := by
  refine (ca_eq (show _ = iT j t by unfold iT; omega) (c_iT E μ0 hj ht)).trans ?_
  show Sum.inr (5, [Value.int (μ0.1 j (tN t)), Value.ref (E.1 (iTt j t)), Value.ref (E.1 (iTr j t))]) = _
  rw [m0S hj, S0t (show 10 ≤ tN t by unfold tN; omega) (show tN t < 85 by unfold tN; omega), show iTt j t = 37 * j + (5 + 3 * t) by unfold iTt; omega, show iTr j t = 37 * j + (6 + 3 * t) by unfold iTr; omega, he _ (by omega), he _ (by omega)]
theorem s_tt (hE : E.2 = E'.2) (hj : j < 6) {t : Nat} (ht : t < 3) : cell E μ0 (37 * j + (5 + 3 * t)) = .inl (E'.2.2 0, 12, .inl (fun _ => 0)) := by
  refine (ca_eq (show _ = iTt j t by unfold iTt; omega) (c_iTt E μ0 hj ht)).trans ?_
  rw [trz (fun y hy => by rw [m0S hj]; exact S0t (by unfold tD; omega) (by unfold tD; omega)), hE]
theorem s_tr (hE : E.2 = E'.2) (hj : j < 6) {t : Nat} (ht : t < 3) : cell E μ0 (37 * j + (6 + 3 * t)) = .inl (E'.2.2 0, 12, .inl (fun _ => 0)) := by
  refine (ca_eq (show _ = iTr j t by unfold iTr; omega) (c_iTr E μ0 hj ht)).trans ?_
  rw [trz (fun y hy => by rw [m0S hj]; exact S0t (by unfold tR; omega) (by unfold tR; omega)), hE]
theorem s_n (hj : j < 6) {n : Nat} (hn : n < 6) (he : ∀ r, r < 37 → E.1 (37 * j + r) = e r) : cell E μ0 (37 * j + (13 + 4 * n)) = .inr (3, [.int 0, .int 0, .int 0, .int 0, .int 0, .int 0, .int (-1), .int 0, .int 0, .int 0, .int 0, .int 0, .ref (e (14 + 4 * n)), .ref (e (15 + 4 * n)), .ref (e (16 + 4 * n))]) := by
  refine (ca_eq (show _ = iN j n by unfold iN; omega) (c_iN E μ0 hj hn)).trans ?_
  show Sum.inr (3, [Value.int (μ0.1 j (sF n 0)), Value.int (μ0.1 j (sF n 1)), Value.int (μ0.1 j (sF n 2)), Value.int (μ0.1 j (sF n 3)), Value.int (μ0.1 j (sF n 4)), Value.int (μ0.1 j (sF n 5)), Value.int (μ0.1 j (sF n 6)), Value.int (μ0.1 j (sF n 7)), Value.int (μ0.1 j (sF n 8)), Value.int (μ0.1 j (sF n 9)), Value.int (μ0.1 j (sF n 10)), Value.int (μ0.1 j (sF n 11)), Value.ref (E.1 (iNl j n)), Value.ref (E.1 (iNs j n)), Value.ref (E.1 (iNr j n))]) = _
  simp only [m0S hj]
  rw [S06, S0s (f := 0) (by decide) (by decide), S0s (f := 1) (by decide) (by decide), S0s (f := 2) (by decide) (by decide), S0s (f := 3) (by decide) (by decide), S0s (f := 4) (by decide) (by decide), S0s (f := 5) (by decide) (by decide), S0s (f := 7) (by decide) (by decide), S0s (f := 8) (by decide) (by decide), S0s (f := 9) (by decide) (by decide), S0s (f := 10) (by decide) (by decide), S0s (f := 11) (by decide) (by decide), show iNl j n = 37 * j + (14 + 4 * n) by unfold iNl; omega, show iNs j n = 37 * j + (15 + 4 * n) by unfold iNs; omega, show iNr j n = 37 * j + (16 + 4 * n) by unfold iNr; omega, he _ (by omega), he _ (by omega), he _ (by omega)]
theorem s_nl (hE : E.2 = E'.2) (hj : j < 6) {n : Nat} (hn : n < 6) : cell E μ0 (37 * j + (14 + 4 * n)) = .inl (E'.2.2 0, 4, .inl (fun _ => 0)) := by
  refine (ca_eq (show _ = iNl j n by unfold iNl; omega) (c_iNl E μ0 hj hn)).trans ?_
  rw [trz (fun y hy => by rw [m0S hj]; exact S0s (by omega) (by omega)), hE]
theorem s_ns (hE : E.2 = E'.2) (hj : j < 6) {n : Nat} (hn : n < 6) : cell E μ0 (37 * j + (15 + 4 * n)) = .inl (E'.2.2 0, 3, .inl (fun _ => 0)) := by
  refine (ca_eq (show _ = iNs j n by unfold iNs; omega) (c_iNs E μ0 hj hn)).trans ?_
  rw [trz (fun y hy => by rw [m0S hj]; exact S0s (by omega) (by omega)), hE]
theorem s_nr (hE : E.2 = E'.2) (hj : j < 6) {n : Nat} (hn : n < 6) : cell E μ0 (37 * j + (16 + 4 * n)) = .inl (E'.2.2 0, 9, .inl (fun _ => 0)) := by
  refine (ca_eq (show _ = iNr j n by unfold iNr; omega) (c_iNr E μ0 hj hn)).trans ?_
  rw [trz (fun y hy => by rw [m0S hj]; exact S0s (by omega) (by omega)), hE]
theorem stc (hE : E.2 = E'.2) (hj : j < 6) (he : ∀ r, r < 37 → E.1 (37 * j + r) = e r) : ∀ r, r < 37 → (Wst E' e)[r]? = some (E.1 (37 * j + r), cell E μ0 (37 * j + r)) := by
  intro r hr
  rw [he r hr]
  match r, hr with
  | 0, _ => exact congrArg (fun z => some (e 0, z)) (s_o hj he).symm
  | 1, _ => exact congrArg (fun z => some (e 1, z)) (s_ts hE hj he).symm
  | 2, _ => exact congrArg (fun z => some (e 2, z)) (s_ss hE hj he).symm
  | 3, _ => exact congrArg (fun z => some (e 3, z)) (s_se hE hj).symm
  | 4, _ => exact congrArg (fun z => some (e 4, z)) (s_t hj (t := 0) (by decide) he).symm
  | 5, _ => exact congrArg (fun z => some (e 5, z)) (s_tt hE hj (t := 0) (by decide)).symm
  | 6, _ => exact congrArg (fun z => some (e 6, z)) (s_tr hE hj (t := 0) (by decide)).symm
  | 7, _ => exact congrArg (fun z => some (e 7, z)) (s_t hj (t := 1) (by decide) he).symm
  | 8, _ => exact congrArg (fun z => some (e 8, z)) (s_tt hE hj (t := 1) (by decide)).symm
  | 9, _ => exact congrArg (fun z => some (e 9, z)) (s_tr hE hj (t := 1) (by decide)).symm
  | 10, _ => exact congrArg (fun z => some (e 10, z)) (s_t hj (t := 2) (by decide) he).symm
  | 11, _ => exact congrArg (fun z => some (e 11, z)) (s_tt hE hj (t := 2) (by decide)).symm
  | 12, _ => exact congrArg (fun z => some (e 12, z)) (s_tr hE hj (t := 2) (by decide)).symm
  | 13, _ => exact congrArg (fun z => some (e 13, z)) (s_n hj (n := 0) (by decide) he).symm
  | 14, _ => exact congrArg (fun z => some (e 14, z)) (s_nl hE hj (n := 0) (by decide)).symm
  | 15, _ => exact congrArg (fun z => some (e 15, z)) (s_ns hE hj (n := 0) (by decide)).symm
  | 16, _ => exact congrArg (fun z => some (e 16, z)) (s_nr hE hj (n := 0) (by decide)).symm
  | 17, _ => exact congrArg (fun z => some (e 17, z)) (s_n hj (n := 1) (by decide) he).symm
  | 18, _ => exact congrArg (fun z => some (e 18, z)) (s_nl hE hj (n := 1) (by decide)).symm
  | 19, _ => exact congrArg (fun z => some (e 19, z)) (s_ns hE hj (n := 1) (by decide)).symm
  | 20, _ => exact congrArg (fun z => some (e 20, z)) (s_nr hE hj (n := 1) (by decide)).symm
  | 21, _ => exact congrArg (fun z => some (e 21, z)) (s_n hj (n := 2) (by decide) he).symm
  | 22, _ => exact congrArg (fun z => some (e 22, z)) (s_nl hE hj (n := 2) (by decide)).symm
  | 23, _ => exact congrArg (fun z => some (e 23, z)) (s_ns hE hj (n := 2) (by decide)).symm
  | 24, _ => exact congrArg (fun z => some (e 24, z)) (s_nr hE hj (n := 2) (by decide)).symm
  | 25, _ => exact congrArg (fun z => some (e 25, z)) (s_n hj (n := 3) (by decide) he).symm
  | 26, _ => exact congrArg (fun z => some (e 26, z)) (s_nl hE hj (n := 3) (by decide)).symm
  | 27, _ => exact congrArg (fun z => some (e 27, z)) (s_ns hE hj (n := 3) (by decide)).symm
  | 28, _ => exact congrArg (fun z => some (e 28, z)) (s_nr hE hj (n := 3) (by decide)).symm
  | 29, _ => exact congrArg (fun z => some (e 29, z)) (s_n hj (n := 4) (by decide) he).symm
  | 30, _ => exact congrArg (fun z => some (e 30, z)) (s_nl hE hj (n := 4) (by decide)).symm
  | 31, _ => exact congrArg (fun z => some (e 31, z)) (s_ns hE hj (n := 4) (by decide)).symm
  | 32, _ => exact congrArg (fun z => some (e 32, z)) (s_nr hE hj (n := 4) (by decide)).symm
  | 33, _ => exact congrArg (fun z => some (e 33, z)) (s_n hj (n := 5) (by decide) he).symm
  | 34, _ => exact congrArg (fun z => some (e 34, z)) (s_nl hE hj (n := 5) (by decide)).symm
  | 35, _ => exact congrArg (fun z => some (e 35, z)) (s_ns hE hj (n := 5) (by decide)).symm
  | 36, _ => exact congrArg (fun z => some (e 36, z)) (s_nr hE hj (n := 5) (by decide)).symm
  | r + 37, hr => exact absurd hr (by omega)
end SC
