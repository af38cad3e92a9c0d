/-! ===== THE STATE: one flat memory for class and reference ===== -/
abbrev Mu : Type := (Nat → Nat → Int32) × (Nat → Nat → Int64) × (Nat → Nat)
abbrev En : Type := (Nat → Nat) × va_G × (Nat → ClassId)
def upM (M : Nat → Nat → Int32) (c k : Nat) (v : Int32) : Nat → Nat → Int32 := fun c' k' => if c' = c ∧ k' = k then v else M c' k'
def upJ (J : Nat → Nat → Int64) (c k : Nat) (v : Int64) : Nat → Nat → Int64 := fun c' k' => if c' = c ∧ k' = k then v else J c' k'
def pM (μ : Mu) (c k : Nat) (v : Int32) : Mu := (upM μ.1 c k v, μ.2)
def pJ (μ : Mu) (c k : Nat) (v : Int64) : Mu := (μ.1, upJ μ.2.1 c k v, μ.2.2)
def pK (μ : Mu) (k v : Nat) : Mu := (μ.1, μ.2.1, va_up μ.2.2 k v)
theorem upM_s (M : Nat → Nat → Int32) (c k : Nat) (v : Int32) : upM M c k v c k = v := by simp [upM]
theorem upM_k (M : Nat → Nat → Int32) {c k c' k' : Nat} (v : Int32) (h : k' ≠ k) : upM M c k v c' k' = M c' k' := by simp [upM, h]
theorem upM_c (M : Nat → Nat → Int32) {c k c' k' : Nat} (v : Int32) (h : c' ≠ c) : upM M c k v c' k' = M c' k' := by simp [upM, h]
theorem upM_r (M : Nat → Nat → Int32) {c k c' : Nat} (v : Int32) (h : c' ≠ c) : upM M c k v c' = M c' := by funext x; simp [upM, h]
theorem upJ_s (M : Nat → Nat → Int64) (c k : Nat) (v : Int64) : upJ M c k v c k = v := by simp [upJ]
theorem upJ_k (M : Nat → Nat → Int64) {c k c' k' : Nat} (v : Int64) (h : k' ≠ k) : upJ M c k v c' k' = M c' k' := by simp [upJ, h]
theorem upJ_c (M : Nat → Nat → Int64) {c k c' k' : Nat} (v : Int64) (h : c' ≠ c) : upJ M c k v c' k' = M c' k' := by simp [upJ, h]
/-- a row's first n cells -/
def tr (n : Nat) (f : Nat → Int32) : Nat → Int32 := fun y => if y < n then f y else 0
theorem tr_lt {n : Nat} {f : Nat → Int32} {y : Nat} (h : y < n) : tr n f y = f y := by simp [tr, h]
theorem tr_congr {n : Nat} {f g : Nat → Int32} (h : ∀ y, y < n → f y = g y) : tr n f = tr n g := by
  funext y
  unfold tr
  by_cases hy : y < n
  · rw [if_pos hy, if_pos hy, h y hy]
  · rw [if_neg hy, if_neg hy]
theorem tr_upd {n : Nat} {f : Nat → Int32} {k : Nat} {v : Int32} (h : k < n) : upd (tr n f) k v = tr n (fun y => if y = k then v else f y) := by
  funext y
  unfold upd tr
  by_cases hy : y = k
  · subst hy; simp [h]
  · simp [hy]
/-- the cells: 240 ids; of each its kind, the row of the memory that it shows, where it begins there, how many -/
def tbS (o : Nat) : Nat × Nat × Nat :=
  if o = 0 then (0, 0, 3) else if o = 1 then (1, 3, 0) else if o = 2 then (2, 3, 0) else if o = 3 then (3, 3, 7)
  else if o < 13 then (if (o - 4) % 3 = 0 then (4, 10 + 25 * ((o - 4) / 3), 1) else if (o - 4) % 3 = 1 then (3, 11 + 25 * ((o - 4) / 3), 12) else (3, 23 + 25 * ((o - 4) / 3), 12))
  else (if (o - 13) % 4 = 0 then (5, 85 + 28 * ((o - 13) / 4), 12) else if (o - 13) % 4 = 1 then (3, 97 + 28 * ((o - 13) / 4), 4) else if (o - 13) % 4 = 2 then (3, 101 + 28 * ((o - 13) / 4), 3) else (3, 104 + 28 * ((o - 13) / 4), 9))
def tb (i : Nat) : Nat × Nat × Nat × Nat :=
  if i < 222 then ((tbS (i % 37)).1, i / 37, (tbS (i % 37)).2.1, (tbS (i % 37)).2.2)
  else if i = 222 then (6, 6, 0, 1) else if i = 223 then (7, 6, 1, 0) else if i = 224 then (8, 6, 1, 2) else if i = 225 then (9, 6, 3, 0)
  else if i = 226 then (9, 6, 3, 0) else if i = 227 then (9, 6, 3, 0) else if i = 228 then (10, 6, 3, 5) else if i = 229 then (11, 6, 8, 60)
  else if i = 230 then (3, 6, 68, 9) else if i = 231 then (12, 6, 77, 3) else if i = 232 then (13, 7, 0, 4) else if i = 233 then (3, 8, 0, 259)
  else if i = 234 then (3, 9, 0, 1036) else if i = 235 then (3, 10, 0, 259) else if i = 236 then (3, 11, 0, 259) else if i = 237 then (11, 12, 0, 60)
  else if i = 238 then (3, 13, 0, 2) else (3, 14, 0, 9)
/-- a cell of a kind: f its ints, g its longs, K the kept states' places -/
def cellK (E : En) (f : Nat → Int32) (g : Nat → Int64) (K : Nat → Nat) (i n : Nat) (k : Nat) : va_E := match k with
  | 0 => .inr (4, [.int (f 0), .int (f 1), .int (f 2), .ref (E.1 (i + 1)), .ref (E.1 (i + 2)), .ref (E.1 (i + 3))])
  | 1 => .inl (E.2.2 2, 3, .inr (.inr (.inr (.inr (fun y => if y < 3 then some (E.1 (i + 3 + 3 * y)) else none)))))
  | 2 => .inl (E.2.2 3, 6, .inr (.inr (.inr (.inr (fun y => if y < 6 then some (E.1 (i + 11 + 4 * y)) else none)))))
  | 3 => .inl (E.2.2 0, n, .inl f)
  | 4 => .inr (5, [.int (f 0), .ref (E.1 (i + 1)), .ref (E.1 (i + 2))])
  | 5 => .inr (3, [.int (f 0), .int (f 1), .int (f 2), .int (f 3), .int (f 4), .int (f 5), .int (f 6), .int (f 7), .int (f 8), .int (f 9), .int (f 10), .int (f 11), .ref (E.1 (i + 1)), .ref (E.1 (i + 2)), .ref (E.1 (i + 3))])
  | 6 => .inr (0, [.int (f 0), .ref (E.1 223)])
  | 7 => .inl (E.2.2 4, 4, .inr (.inr (.inr (.inr (fun y => if y < 4 then some (E.1 (37 * K y)) else none)))))
  | 8 => .inr (2, [.ref (E.1 225), .ref (E.1 226), .long (g 0), .int (f 0), .int (f 1)])
  | 9 => .inr (1, [.long (g 0), .long (g 1), .long (g 2), .long (g 3), .long (g 4), .long (g 5), .long (g 6), .long (g 7), .long (g 8), .long (g 9), .long (g 10)])
  | 10 => .inr (6, [.int (f 0), .int (f 1), .int (f 2), .int (f 3), .int (f 4), .ref (E.1 229)])
  | 11 => .inl (E.2.2 1, n, .inl f)
  | 12 => .inr (7, [.ref (E.1 0), .ref (E.1 37), .ref (E.1 222), .ref (E.1 224), .ref (E.1 227), .ref (E.1 228), .ref (E.1 230), .int (f 0), .int (f 1), .int (f 2)])
  | _ => .inr (8, [.ref (E.1 233), .ref (E.1 234), .ref (E.1 235), .ref (E.1 236), .int (f 0), .ref (E.1 237), .int (f 1), .int (f 2), .int (f 3), .ref (E.1 238), .ref (E.1 239)])
def jRow (i : Nat) : Nat := if i = 224 then 3 else i - 225
def jOf (J : Nat → Nat → Int64) (i : Nat) : Nat → Int64 := if 224 ≤ i ∧ i < 228 then J (jRow i) else fun _ => 0
def kOf (K : Nat → Nat) (i : Nat) : Nat → Nat := if i = 223 then K else fun _ => 0
def cell (E : En) (μ : Mu) (i : Nat) : va_E := cellK E (tr (tb i).2.2.2 (fun y => μ.1 (tb i).2.1 ((tb i).2.2.1 + y))) (jOf μ.2.1 i) (kOf μ.2.2 i) i (tb i).2.2.2 (tb i).1
def wsA (E : En) (μ : Mu) : va_W := (List.range 232).map (fun i => (E.1 i, cell E μ i))
abbrev tysE (E : En) : List (ClassId × FieldType) := [(E.2.2 0, .int), (E.2.2 1, .char), (E.2.2 2, .object "OhmBridge$Table"), (E.2.2 3, .object "OhmBridge$Sensor"), (E.2.2 4, .object "OhmBridge$State")]
def inE (E : En) : Nat → Prop := fun q => ∃ i, i < 232 ∧ q = E.1 i
/-- a static table of ints that nobody writes -/
def zl (l : List Int32) : Nat → Value := fun j => .int (l.getD j 0)
def zS (E : En) (k : Nat) (n : String) (N : Nat) (l : List Int32) (U : State) (H : Heap) : Prop := va_Z "OhmBridge" n "[I" (.ref (E.1 k)) (inE E) U H ∧ va_T .int (E.1 k) N (zl l) (inE E) U H
theorem zS.moved {E : En} {k N : Nat} {n : String} {l : List Int32} {u U : State} {H : Heap} (hvm : u.vm.Alike U.vm) (h : zS E k n N l u H) : zS E k n N l U H := ⟨va_Z.moved hvm h.1, va_T.moved hvm h.2⟩
theorem zS.kept {E : En} {k N : Nat} {n : String} {l : List Int32} {U : State} {H H1 : Heap} (h : zS E k n N l U H) (hq : ∀ a : Nat, a < H.size → ¬ inE E a → H1[a]? = H[a]?) : zS E k n N l U H1 := ⟨h.1.kept hq, h.2.kept hq⟩
def zl0 : List Int32 := [10000, 100, 100, 8, 0, 0, 1]
def zl1 : List Int32 := [1000000, 5000, 5000, 24, 50000, 100000, 9]
def zl2 : List Int32 := [0, -100000, 0]
def zl3 : List Int32 := [5000, 100000, 1]
def zl4 : List Int32 := [100000, 1000, 1414, 20, 500, 5000, 3]
/-- the static tables: what they hold from the start -/
def SZ (E : En) (U : State) (H : Heap) : Prop := zS E 240 "LEAST_SETTING" 7 zl0 U H ∧ zS E 241 "GREATEST_SETTING" 7 zl1 U H ∧ zS E 242 "LEAST_STRAIN" 3 zl2 U H ∧ zS E 243 "GREATEST_STRAIN" 3 zl3 U H ∧ zS E 244 "FIRST_SETTING" 7 zl4 U H
theorem SZ.moved {E : En} {u U : State} {H : Heap} (hvm : u.vm.Alike U.vm) (h : SZ E u H) : SZ E U H := ⟨h.1.moved hvm, h.2.1.moved hvm, h.2.2.1.moved hvm, h.2.2.2.1.moved hvm, h.2.2.2.2.moved hvm⟩
theorem SZ.kept {E : En} {U : State} {H H1 : Heap} (h : SZ E U H) (hq : ∀ a : Nat, a < H.size → ¬ inE E a → H1[a]? = H[a]?) : SZ E U H1 := ⟨h.1.kept hq, h.2.1.kept hq, h.2.2.1.kept hq, h.2.2.2.1.kept hq, h.2.2.2.2.kept hq⟩
/-- the world, at a state -/
def WdU (E : En) (μ : Mu) (U : State) : Prop := va_P E.2.1 vwCl (wsA E μ) U.heap ∧ va_K E.2.1 vwCl (tysE E) U ∧ va_D (inE E) (wsA E μ) ∧ SZ E U U.heap
theorem wsA_at (E : En) (μ : Mu) {i : Nat} (h : i < 232) : (wsA E μ)[i]? = some (E.1 i, cell E μ i) := by
  unfold wsA
  rw [List.getElem?_map, List.getElem?_range h]
  rfl
theorem wsA_len (E : En) (μ : Mu) : (wsA E μ).length = 232 := by simp [wsA]
theorem wsA_set (E : En) (μ μ' : Mu) {i : Nat} {e : va_E} (hi : i < 232) (he : e = cell E μ' i) (h : ∀ k, k < 232 → k ≠ i → cell E μ k = cell E μ' k) : (wsA E μ).set i (E.1 i, e) = wsA E μ' := by
  apply List.ext_getElem?
  intro j
  by_cases hj : j < 232
  · rw [wsA_at E μ' hj]
    by_cases hji : j = i
    · subst hji
      rw [List.getElem?_set_self (by rw [wsA_len]; exact hj), he]
    · rw [List.getElem?_set_ne (fun q => hji q.symm), wsA_at E μ hj, h j hj hji]
  · rw [List.getElem?_eq_none (by rw [List.length_set, wsA_len]; omega), List.getElem?_eq_none (by rw [wsA_len]; omega)]
theorem wsA_D {E : En} {A : Nat → Prop} {μ : Mu} (μ' : Mu) (h : va_D A (wsA E μ)) : va_D A (wsA E μ') := by
  have key : ∀ (k : Nat) (q : Nat × va_E), (wsA E μ')[k]? = some q → k < 232 ∧ q.1 = E.1 k := by
    intro k q hk
    have hl : k < 232 := by
      have := (List.getElem?_eq_some_iff.mp hk).1
      rwa [wsA_len] at this
    rw [wsA_at E μ' hl] at hk
    cases hk
    exact ⟨hl, rfl⟩
  refine ⟨fun i j x y hx hy hxy => ?_, fun k q hk => ?_⟩
  · obtain ⟨h1, h2⟩ := key i x hx
    obtain ⟨h3, h4⟩ := key j y hy
    exact h.1 i j _ _ (wsA_at E μ h1) (wsA_at E μ h3) (by rw [← h2, ← h4]; exact hxy)
  · obtain ⟨h1, h2⟩ := key k q hk
    rw [h2]
    exact h.2 k _ (wsA_at E μ h1)
/-- the rows that the cells show lie one behind another -/
def tbF (i : Nat) : Nat := 2000 * (tb i).2.1 + (tb i).2.2.1
theorem tb_step : ∀ i, i < 239 → tbF i + (tb i).2.2.2 ≤ tbF (i + 1) := by decide +kernel
theorem tb_apart {i : Nat} : ∀ d : Nat, i + d + 1 < 232 → tbF i + (tb i).2.2.2 ≤ tbF (i + d + 1)
  | 0, h => tb_step i (by omega)
  | d + 1, h => by
    have h1 := tb_apart (i := i) d (by omega)
    have h2 := tb_step (i + d + 1) (by omega)
    have h3 : i + (d + 1) + 1 = i + d + 1 + 1 := by omega
    rw [h3]
    omega
theorem tb_out {i k x : Nat} (hi : i < 232) (hk : k < 232) (h : k ≠ i) (hx : (tb i).2.2.1 ≤ x) (hx2 : x < (tb i).2.2.1 + (tb i).2.2.2) {y : Nat} (hy : y < (tb k).2.2.2) : ¬ ((tb k).2.1 = (tb i).2.1 ∧ (tb k).2.2.1 + y = x) := by
  rintro ⟨h1, h2⟩
  rcases Nat.lt_or_gt_of_ne h with q | q
  · have := tb_apart (i := k) (i - k - 1) (by omega)
    rw [show k + (i - k - 1) + 1 = i by omega] at this
    unfold tbF at this
    omega
  · have := tb_apart (i := i) (k - i - 1) (by omega)
    rw [show i + (k - i - 1) + 1 = k by omega] at this
    unfold tbF at this
    omega
/-- a write into the row of one cell leaves the others -/
theorem cell_M (E : En) (μ : Mu) {i k x : Nat} {v : Int32} (hi : i < 232) (hk : k < 232) (h : k ≠ i) (hx : (tb i).2.2.1 ≤ x) (hx2 : x < (tb i).2.2.1 + (tb i).2.2.2) : cell E μ k = cell E (pM μ (tb i).2.1 x v) k := by
  unfold cell
  congr 1
  apply tr_congr
  intro y hy
  have := tb_out hi hk h hx hx2 hy
  simp only [pM, upM, if_neg this]
theorem cell_J (E : En) (μ : Mu) {k r x : Nat} {v : Int64} (h : ∀ y, jOf μ.2.1 k y = jOf (upJ μ.2.1 r x v) k y) : cell E μ k = cell E (pJ μ r x v) k := by
  unfold cell
  rw [show jOf μ.2.1 k = jOf (pJ μ r x v).2.1 k from funext h]
  rfl
theorem wsA_pM (E : En) (μ : Mu) {i x : Nat} {v : Int32} {e : va_E} (hi : i < 232) {c : Nat} (hc : (tb i).2.1 = c) (hx : (tb i).2.2.1 ≤ x) (hx2 : x < (tb i).2.2.1 + (tb i).2.2.2) (he : e = cell E (pM μ c x v) i) : (wsA E μ).set i (E.1 i, e) = wsA E (pM μ c x v) := by
  subst hc
  exact wsA_set E μ _ hi he (fun k hk h => cell_M E μ hi hk h hx hx2)
