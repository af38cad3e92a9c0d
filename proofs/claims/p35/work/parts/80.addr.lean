/-! ===== the addresses at the start ===== -/
def En0 (G : va_G) (dA : Nat → ClassId) (tz : Nat → Nat) (u : SO) : En := (fun i => if i < 37 then u.2.1 i else if i < 74 then u.2.2.1 (i - 37) else if i < 111 then u.2.2.2.1.2.2.1 (i - 74) else if i < 148 then u.2.2.2.1.2.2.2.1 (i - 111) else if i < 185 then u.2.2.2.1.2.2.2.2.1 (i - 148) else if i < 222 then u.2.2.2.1.2.2.2.2.2 (i - 185) else if i < 232 then ([u.2.2.2.1.1, u.2.2.2.1.2.1, u.2.2.2.2.1.1, u.2.2.2.2.1.2.1, u.2.2.2.2.1.2.2, u.2.2.2.2.2.1, u.2.2.2.2.2.2.1.1, u.2.2.2.2.2.2.1.2, u.2.2.2.2.2.2.2, u.1] : List Nat).getD (i - 222) 0 else tz (i - 240), G, dA)
def pl (i : Nat) : Nat := if i < 74 then i + 1 else if i < 222 then i + 3 else if i < 224 then i - 147 else if i < 231 then i + 1 else if i = 231 then 0 else i
def iv (k : Nat) : Nat := if k = 0 then 231 else if k < 75 then k - 1 else if k < 77 then k + 147 else if k < 225 then k - 3 else if k < 232 then k - 1 else k
theorem iv_pl : ∀ i, i < 232 → iv (pl i) = i := by decide +kernel
theorem pl_ij {i j : Nat} (hi : i < 232) (hj : j < 232) (h : pl i = pl j) : i = j := by rw [← iv_pl i hi, ← iv_pl j hj, h]
theorem lA {X Y : va_W} {n m k : Nat} (hX : X.length = n) (hY : Y.length = m) (h : n + m = k) : (X ++ Y).length = k := by
  rw [List.length_append, hX, hY, h]
theorem aL {X Y : va_W} {k n : Nat} (hX : X.length = n) (h : k < n) : (X ++ Y)[k]? = X[k]? := List.getElem?_append_left (by omega)
theorem aR {X Y : va_W} {k n m : Nat} (hX : X.length = n) (h : n + m = k) : (X ++ Y)[k]? = Y[m]? := by
  rw [List.getElem?_append_right (by omega), show k - X.length = m by omega]
abbrev big (E : En) (u : SO) : va_W := Wob E u
section BG
variable {E : En} {u : SO}
theorem wst_l {e : Nat → Nat} : (Wst E e).length = 37 := rfl
theorem hi_l0 (h : SH) : ([(h.1, Sum.inr (0, [Value.int 0, Value.ref h.2.1])), (h.2.1, Sum.inl (E.2.2 4, 4, Sum.inr (Sum.inr (Sum.inr (Sum.inr (fun y => if y < 4 then some ([h.2.2.1 0, h.2.2.2.1 0, h.2.2.2.2.1 0, h.2.2.2.2.2 0].getD y 0) else none))))))] : va_W).length = 2 := rfl
theorem hi_l1 (h : SH) : (([(h.1, Sum.inr (0, [Value.int 0, Value.ref h.2.1])), (h.2.1, Sum.inl (E.2.2 4, 4, Sum.inr (Sum.inr (Sum.inr (Sum.inr (fun y => if y < 4 then some ([h.2.2.1 0, h.2.2.2.1 0, h.2.2.2.2.1 0, h.2.2.2.2.2 0].getD y 0) else none))))))]) ++ Wst E h.2.2.1 : va_W).length = 39 := lA (hi_l0 h) wst_l rfl
theorem hi_l2 (h : SH) : ((([(h.1, Sum.inr (0, [Value.int 0, Value.ref h.2.1])), (h.2.1, Sum.inl (E.2.2 4, 4, Sum.inr (Sum.inr (Sum.inr (Sum.inr (fun y => if y < 4 then some ([h.2.2.1 0, h.2.2.2.1 0, h.2.2.2.2.1 0, h.2.2.2.2.2 0].getD y 0) else none))))))]) ++ Wst E h.2.2.1) ++ Wst E h.2.2.2.1 : va_W).length = 76 := lA (hi_l1 h) wst_l rfl
theorem hi_l3 (h : SH) : (((([(h.1, Sum.inr (0, [Value.int 0, Value.ref h.2.1])), (h.2.1, Sum.inl (E.2.2 4, 4, Sum.inr (Sum.inr (Sum.inr (Sum.inr (fun y => if y < 4 then some ([h.2.2.1 0, h.2.2.2.1 0, h.2.2.2.2.1 0, h.2.2.2.2.2 0].getD y 0) else none))))))]) ++ Wst E h.2.2.1) ++ Wst E h.2.2.2.1) ++ Wst E h.2.2.2.2.1 : va_W).length = 113 := lA (hi_l2 h) wst_l rfl
theorem hi_l4 (h : SH) : ((((([(h.1, Sum.inr (0, [Value.int 0, Value.ref h.2.1])), (h.2.1, Sum.inl (E.2.2 4, 4, Sum.inr (Sum.inr (Sum.inr (Sum.inr (fun y => if y < 4 then some ([h.2.2.1 0, h.2.2.2.1 0, h.2.2.2.2.1 0, h.2.2.2.2.2 0].getD y 0) else none))))))]) ++ Wst E h.2.2.1) ++ Wst E h.2.2.2.1) ++ Wst E h.2.2.2.2.1) ++ Wst E h.2.2.2.2.2 : va_W).length = 150 := lA (hi_l3 h) wst_l rfl
theorem whi_l (h : SH) : (Whi E h).length = 150 := hi_l4 h
theorem hi_at0 (h : SH) {k m : Nat} (hk : 0 + m = k) (hm : m < 2) : (Whi E h)[k]? = ([(h.1, Sum.inr (0, [Value.int 0, Value.ref h.2.1])), (h.2.1, Sum.inl (E.2.2 4, 4, Sum.inr (Sum.inr (Sum.inr (Sum.inr (fun y => if y < 4 then some ([h.2.2.1 0, h.2.2.2.1 0, h.2.2.2.2.1 0, h.2.2.2.2.2 0].getD y 0) else none))))))] : va_W)[m]? := by
  show ((((([(h.1, Sum.inr (0, [Value.int 0, Value.ref h.2.1])), (h.2.1, Sum.inl (E.2.2 4, 4, Sum.inr (Sum.inr (Sum.inr (Sum.inr (fun y => if y < 4 then some ([h.2.2.1 0, h.2.2.2.1 0, h.2.2.2.2.1 0, h.2.2.2.2.2 0].getD y 0) else none))))))]) ++ Wst E h.2.2.1) ++ Wst E h.2.2.2.1) ++ Wst E h.2.2.2.2.1) ++ Wst E h.2.2.2.2.2 : va_W)[k]? = _
  rw [aL (hi_l3 h) (by omega)]
  rw [aL (hi_l2 h) (by omega)]
  rw [aL (hi_l1 h) (by omega)]
  rw [aL (hi_l0 h) (by omega)]
  rw [show k = m by omega]
theorem hi_at1 (h : SH) {k m : Nat} (hk : 2 + m = k) (hm : m < 37) : (Whi E h)[k]? = (Wst E h.2.2.1 : va_W)[m]? := by
  show ((((([(h.1, Sum.inr (0, [Value.int 0, Value.ref h.2.1])), (h.2.1, Sum.inl (E.2.2 4, 4, Sum.inr (Sum.inr (Sum.inr (Sum.inr (fun y => if y < 4 then some ([h.2.2.1 0, h.2.2.2.1 0, h.2.2.2.2.1 0, h.2.2.2.2.2 0].getD y 0) else none))))))]) ++ Wst E h.2.2.1) ++ Wst E h.2.2.2.1) ++ Wst E h.2.2.2.2.1) ++ Wst E h.2.2.2.2.2 : va_W)[k]? = _
  rw [aL (hi_l3 h) (by omega)]
  rw [aL (hi_l2 h) (by omega)]
  rw [aL (hi_l1 h) (by omega)]
  exact aR (hi_l0 h) hk
theorem hi_at2 (h : SH) {k m : Nat} (hk : 39 + m = k) (hm : m < 37) : (Whi E h)[k]? = (Wst E h.2.2.2.1 : va_W)[m]? := by
  show ((((([(h.1, Sum.inr (0, [Value.int 0, Value.ref h.2.1])), (h.2.1, Sum.inl (E.2.2 4, 4, Sum.inr (Sum.inr (Sum.inr (Sum.inr (fun y => if y < 4 then some ([h.2.2.1 0, h.2.2.2.1 0, h.2.2.2.2.1 0, h.2.2.2.2.2 0].getD y 0) else none))))))]) ++ Wst E h.2.2.1) ++ Wst E h.2.2.2.1) ++ Wst E h.2.2.2.2.1) ++ Wst E h.2.2.2.2.2 : va_W)[k]? = _
  rw [aL (hi_l3 h) (by omega)]
  rw [aL (hi_l2 h) (by omega)]
  exact aR (hi_l1 h) hk
theorem hi_at3 (h : SH) {k m : Nat} (hk : 76 + m = k) (hm : m < 37) : (Whi E h)[k]? = (Wst E h.2.2.2.2.1 : va_W)[m]? := by
  show ((((([(h.1, Sum.inr (0, [Value.int 0, Value.ref h.2.1])), (h.2.1, Sum.inl (E.2.2 4, 4, Sum.inr (Sum.inr (Sum.inr (Sum.inr (fun y => if y < 4 then some ([h.2.2.1 0, h.2.2.2.1 0, h.2.2.2.2.1 0, h.2.2.2.2.2 0].getD y 0) else none))))))]) ++ Wst E h.2.2.1) ++ Wst E h.2.2.2.1) ++ Wst E h.2.2.2.2.1) ++ Wst E h.2.2.2.2.2 : va_W)[k]? = _
  rw [aL (hi_l3 h) (by omega)]
  exact aR (hi_l2 h) hk
theorem hi_at4 (h : SH) {k m : Nat} (hk : 113 + m = k) (hm : m < 37) : (Whi E h)[k]? = (Wst E h.2.2.2.2.2 : va_W)[m]? := by
  show ((((([(h.1, Sum.inr (0, [Value.int 0, Value.ref h.2.1])), (h.2.1, Sum.inl (E.2.2 4, 4, Sum.inr (Sum.inr (Sum.inr (Sum.inr (fun y => if y < 4 then some ([h.2.2.1 0, h.2.2.2.1 0, h.2.2.2.2.1 0, h.2.2.2.2.2 0].getD y 0) else none))))))]) ++ Wst E h.2.2.1) ++ Wst E h.2.2.2.1) ++ Wst E h.2.2.2.2.1) ++ Wst E h.2.2.2.2.2 : va_W)[k]? = _
  exact aR (hi_l3 h) hk
theorem ob_l0 : ([(u.1, Sum.inr (7, [Value.ref (u.2.1 0), Value.ref (u.2.2.1 0), Value.ref u.2.2.2.1.1, Value.ref u.2.2.2.2.1.1, Value.ref u.2.2.2.2.2.1, Value.ref u.2.2.2.2.2.2.1.1, Value.ref u.2.2.2.2.2.2.2, Value.int 0, Value.int 0, Value.int 0]))] : va_W).length = 1 := rfl
theorem ob_l1 : (([(u.1, Sum.inr (7, [Value.ref (u.2.1 0), Value.ref (u.2.2.1 0), Value.ref u.2.2.2.1.1, Value.ref u.2.2.2.2.1.1, Value.ref u.2.2.2.2.2.1, Value.ref u.2.2.2.2.2.2.1.1, Value.ref u.2.2.2.2.2.2.2, Value.int 0, Value.int 0, Value.int 0]))]) ++ Wst E u.2.1 : va_W).length = 38 := lA (ob_l0) wst_l rfl
theorem ob_l2 : ((([(u.1, Sum.inr (7, [Value.ref (u.2.1 0), Value.ref (u.2.2.1 0), Value.ref u.2.2.2.1.1, Value.ref u.2.2.2.2.1.1, Value.ref u.2.2.2.2.2.1, Value.ref u.2.2.2.2.2.2.1.1, Value.ref u.2.2.2.2.2.2.2, Value.int 0, Value.int 0, Value.int 0]))]) ++ Wst E u.2.1) ++ Wst E u.2.2.1 : va_W).length = 75 := lA (ob_l1) wst_l rfl
theorem ob_l3 : (((([(u.1, Sum.inr (7, [Value.ref (u.2.1 0), Value.ref (u.2.2.1 0), Value.ref u.2.2.2.1.1, Value.ref u.2.2.2.2.1.1, Value.ref u.2.2.2.2.2.1, Value.ref u.2.2.2.2.2.2.1.1, Value.ref u.2.2.2.2.2.2.2, Value.int 0, Value.int 0, Value.int 0]))]) ++ Wst E u.2.1) ++ Wst E u.2.2.1) ++ Whi E u.2.2.2.1 : va_W).length = 225 := lA (ob_l2) (whi_l _) rfl
theorem ob_l4 : ((((([(u.1, Sum.inr (7, [Value.ref (u.2.1 0), Value.ref (u.2.2.1 0), Value.ref u.2.2.2.1.1, Value.ref u.2.2.2.2.1.1, Value.ref u.2.2.2.2.2.1, Value.ref u.2.2.2.2.2.2.1.1, Value.ref u.2.2.2.2.2.2.2, Value.int 0, Value.int 0, Value.int 0]))]) ++ Wst E u.2.1) ++ Wst E u.2.2.1) ++ Whi E u.2.2.2.1) ++ Wmet u.2.2.2.2.1 : va_W).length = 228 := lA (ob_l3) (rfl : (Wmet u.2.2.2.2.1 : va_W).length = 3) rfl
theorem ob_l5 : (((((([(u.1, Sum.inr (7, [Value.ref (u.2.1 0), Value.ref (u.2.2.1 0), Value.ref u.2.2.2.1.1, Value.ref u.2.2.2.2.1.1, Value.ref u.2.2.2.2.2.1, Value.ref u.2.2.2.2.2.2.1.1, Value.ref u.2.2.2.2.2.2.2, Value.int 0, Value.int 0, Value.int 0]))]) ++ Wst E u.2.1) ++ Wst E u.2.2.1) ++ Whi E u.2.2.2.1) ++ Wmet u.2.2.2.2.1) ++ Wmea u.2.2.2.2.2.1 : va_W).length = 229 := lA (ob_l4) (rfl : (Wmea u.2.2.2.2.2.1 : va_W).length = 1) rfl
theorem ob_l6 : ((((((([(u.1, Sum.inr (7, [Value.ref (u.2.1 0), Value.ref (u.2.2.1 0), Value.ref u.2.2.2.1.1, Value.ref u.2.2.2.2.1.1, Value.ref u.2.2.2.2.2.1, Value.ref u.2.2.2.2.2.2.1.1, Value.ref u.2.2.2.2.2.2.2, Value.int 0, Value.int 0, Value.int 0]))]) ++ Wst E u.2.1) ++ Wst E u.2.2.1) ++ Whi E u.2.2.2.1) ++ Wmet u.2.2.2.2.1) ++ Wmea u.2.2.2.2.2.1) ++ Wtxt E u.2.2.2.2.2.2.1 : va_W).length = 231 := lA (ob_l5) (rfl : (Wtxt E u.2.2.2.2.2.2.1 : va_W).length = 2) rfl
theorem ob_l7 : (((((((([(u.1, Sum.inr (7, [Value.ref (u.2.1 0), Value.ref (u.2.2.1 0), Value.ref u.2.2.2.1.1, Value.ref u.2.2.2.2.1.1, Value.ref u.2.2.2.2.2.1, Value.ref u.2.2.2.2.2.2.1.1, Value.ref u.2.2.2.2.2.2.2, Value.int 0, Value.int 0, Value.int 0]))]) ++ Wst E u.2.1) ++ Wst E u.2.2.1) ++ Whi E u.2.2.2.1) ++ Wmet u.2.2.2.2.1) ++ Wmea u.2.2.2.2.2.1) ++ Wtxt E u.2.2.2.2.2.2.1) ++ [(u.2.2.2.2.2.2.2, Sum.inl (E.2.2 0, 9, Sum.inl (fun _ => 0)))] : va_W).length = 232 := lA (ob_l6) (rfl : ([(u.2.2.2.2.2.2.2, Sum.inl (E.2.2 0, 9, Sum.inl (fun _ => 0)))] : va_W).length = 1) rfl
theorem ob_at0 {k m : Nat} (hk : 0 + m = k) (hm : m < 1) : (Wob E u)[k]? = ([(u.1, Sum.inr (7, [Value.ref (u.2.1 0), Value.ref (u.2.2.1 0), Value.ref u.2.2.2.1.1, Value.ref u.2.2.2.2.1.1, Value.ref u.2.2.2.2.2.1, Value.ref u.2.2.2.2.2.2.1.1, Value.ref u.2.2.2.2.2.2.2, Value.int 0, Value.int 0, Value.int 0]))] : va_W)[m]? := by
  show (((((((([(u.1, Sum.inr (7, [Value.ref (u.2.1 0), Value.ref (u.2.2.1 0), Value.ref u.2.2.2.1.1, Value.ref u.2.2.2.2.1.1, Value.ref u.2.2.2.2.2.1, Value.ref u.2.2.2.2.2.2.1.1, Value.ref u.2.2.2.2.2.2.2, Value.int 0, Value.int 0, Value.int 0]))]) ++ Wst E u.2.1) ++ Wst E u.2.2.1) ++ Whi E u.2.2.2.1) ++ Wmet u.2.2.2.2.1) ++ Wmea u.2.2.2.2.2.1) ++ Wtxt E u.2.2.2.2.2.2.1) ++ [(u.2.2.2.2.2.2.2, Sum.inl (E.2.2 0, 9, Sum.inl (fun _ => 0)))] : va_W)[k]? = _
  rw [aL (ob_l6) (by omega)]
  rw [aL (ob_l5) (by omega)]
  rw [aL (ob_l4) (by omega)]
  rw [aL (ob_l3) (by omega)]
  rw [aL (ob_l2) (by omega)]
  rw [aL (ob_l1) (by omega)]
  rw [aL (ob_l0) (by omega)]
  rw [show k = m by omega]
theorem ob_at1 {k m : Nat} (hk : 1 + m = k) (hm : m < 37) : (Wob E u)[k]? = (Wst E u.2.1 : va_W)[m]? := by
  show (((((((([(u.1, Sum.inr (7, [Value.ref (u.2.1 0), Value.ref (u.2.2.1 0), Value.ref u.2.2.2.1.1, Value.ref u.2.2.2.2.1.1, Value.ref u.2.2.2.2.2.1, Value.ref u.2.2.2.2.2.2.1.1, Value.ref u.2.2.2.2.2.2.2, Value.int 0, Value.int 0, Value.int 0]))]) ++ Wst E u.2.1) ++ Wst E u.2.2.1) ++ Whi E u.2.2.2.1) ++ Wmet u.2.2.2.2.1) ++ Wmea u.2.2.2.2.2.1) ++ Wtxt E u.2.2.2.2.2.2.1) ++ [(u.2.2.2.2.2.2.2, Sum.inl (E.2.2 0, 9, Sum.inl (fun _ => 0)))] : va_W)[k]? = _
  rw [aL (ob_l6) (by omega)]
  rw [aL (ob_l5) (by omega)]
  rw [aL (ob_l4) (by omega)]
  rw [aL (ob_l3) (by omega)]
  rw [aL (ob_l2) (by omega)]
  rw [aL (ob_l1) (by omega)]
  exact aR (ob_l0) hk
theorem ob_at2 {k m : Nat} (hk : 38 + m = k) (hm : m < 37) : (Wob E u)[k]? = (Wst E u.2.2.1 : va_W)[m]? := by
  show (((((((([(u.1, Sum.inr (7, [Value.ref (u.2.1 0), Value.ref (u.2.2.1 0), Value.ref u.2.2.2.1.1, Value.ref u.2.2.2.2.1.1, Value.ref u.2.2.2.2.2.1, Value.ref u.2.2.2.2.2.2.1.1, Value.ref u.2.2.2.2.2.2.2, Value.int 0, Value.int 0, Value.int 0]))]) ++ Wst E u.2.1) ++ Wst E u.2.2.1) ++ Whi E u.2.2.2.1) ++ Wmet u.2.2.2.2.1) ++ Wmea u.2.2.2.2.2.1) ++ Wtxt E u.2.2.2.2.2.2.1) ++ [(u.2.2.2.2.2.2.2, Sum.inl (E.2.2 0, 9, Sum.inl (fun _ => 0)))] : va_W)[k]? = _
  rw [aL (ob_l6) (by omega)]
  rw [aL (ob_l5) (by omega)]
  rw [aL (ob_l4) (by omega)]
  rw [aL (ob_l3) (by omega)]
  rw [aL (ob_l2) (by omega)]
  exact aR (ob_l1) hk
theorem ob_at3 {k m : Nat} (hk : 75 + m = k) (hm : m < 150) : (Wob E u)[k]? = (Whi E u.2.2.2.1 : va_W)[m]? := by
  show (((((((([(u.1, Sum.inr (7, [Value.ref (u.2.1 0), Value.ref (u.2.2.1 0), Value.ref u.2.2.2.1.1, Value.ref u.2.2.2.2.1.1, Value.ref u.2.2.2.2.2.1, Value.ref u.2.2.2.2.2.2.1.1, Value.ref u.2.2.2.2.2.2.2, Value.int 0, Value.int 0, Value.int 0]))]) ++ Wst E u.2.1) ++ Wst E u.2.2.1) ++ Whi E u.2.2.2.1) ++ Wmet u.2.2.2.2.1) ++ Wmea u.2.2.2.2.2.1) ++ Wtxt E u.2.2.2.2.2.2.1) ++ [(u.2.2.2.2.2.2.2, Sum.inl (E.2.2 0, 9, Sum.inl (fun _ => 0)))] : va_W)[k]? = _
  rw [aL (ob_l6) (by omega)]
  rw [aL (ob_l5) (by omega)]
  rw [aL (ob_l4) (by omega)]
  rw [aL (ob_l3) (by omega)]
  exact aR (ob_l2) hk
theorem ob_at4 {k m : Nat} (hk : 225 + m = k) (hm : m < 3) : (Wob E u)[k]? = (Wmet u.2.2.2.2.1 : va_W)[m]? := by
  show (((((((([(u.1, Sum.inr (7, [Value.ref (u.2.1 0), Value.ref (u.2.2.1 0), Value.ref u.2.2.2.1.1, Value.ref u.2.2.2.2.1.1, Value.ref u.2.2.2.2.2.1, Value.ref u.2.2.2.2.2.2.1.1, Value.ref u.2.2.2.2.2.2.2, Value.int 0, Value.int 0, Value.int 0]))]) ++ Wst E u.2.1) ++ Wst E u.2.2.1) ++ Whi E u.2.2.2.1) ++ Wmet u.2.2.2.2.1) ++ Wmea u.2.2.2.2.2.1) ++ Wtxt E u.2.2.2.2.2.2.1) ++ [(u.2.2.2.2.2.2.2, Sum.inl (E.2.2 0, 9, Sum.inl (fun _ => 0)))] : va_W)[k]? = _
  rw [aL (ob_l6) (by omega)]
  rw [aL (ob_l5) (by omega)]
  rw [aL (ob_l4) (by omega)]
  exact aR (ob_l3) hk
theorem ob_at5 {k m : Nat} (hk : 228 + m = k) (hm : m < 1) : (Wob E u)[k]? = (Wmea u.2.2.2.2.2.1 : va_W)[m]? := by
  show (((((((([(u.1, Sum.inr (7, [Value.ref (u.2.1 0), Value.ref (u.2.2.1 0), Value.ref u.2.2.2.1.1, Value.ref u.2.2.2.2.1.1, Value.ref u.2.2.2.2.2.1, Value.ref u.2.2.2.2.2.2.1.1, Value.ref u.2.2.2.2.2.2.2, Value.int 0, Value.int 0, Value.int 0]))]) ++ Wst E u.2.1) ++ Wst E u.2.2.1) ++ Whi E u.2.2.2.1) ++ Wmet u.2.2.2.2.1) ++ Wmea u.2.2.2.2.2.1) ++ Wtxt E u.2.2.2.2.2.2.1) ++ [(u.2.2.2.2.2.2.2, Sum.inl (E.2.2 0, 9, Sum.inl (fun _ => 0)))] : va_W)[k]? = _
  rw [aL (ob_l6) (by omega)]
  rw [aL (ob_l5) (by omega)]
  exact aR (ob_l4) hk
theorem ob_at6 {k m : Nat} (hk : 229 + m = k) (hm : m < 2) : (Wob E u)[k]? = (Wtxt E u.2.2.2.2.2.2.1 : va_W)[m]? := by
  show (((((((([(u.1, Sum.inr (7, [Value.ref (u.2.1 0), Value.ref (u.2.2.1 0), Value.ref u.2.2.2.1.1, Value.ref u.2.2.2.2.1.1, Value.ref u.2.2.2.2.2.1, Value.ref u.2.2.2.2.2.2.1.1, Value.ref u.2.2.2.2.2.2.2, Value.int 0, Value.int 0, Value.int 0]))]) ++ Wst E u.2.1) ++ Wst E u.2.2.1) ++ Whi E u.2.2.2.1) ++ Wmet u.2.2.2.2.1) ++ Wmea u.2.2.2.2.2.1) ++ Wtxt E u.2.2.2.2.2.2.1) ++ [(u.2.2.2.2.2.2.2, Sum.inl (E.2.2 0, 9, Sum.inl (fun _ => 0)))] : va_W)[k]? = _
  rw [aL (ob_l6) (by omega)]
  exact aR (ob_l5) hk
theorem ob_at7 {k m : Nat} (hk : 231 + m = k) (hm : m < 1) : (Wob E u)[k]? = ([(u.2.2.2.2.2.2.2, Sum.inl (E.2.2 0, 9, Sum.inl (fun _ => 0)))] : va_W)[m]? := by
  show (((((((([(u.1, Sum.inr (7, [Value.ref (u.2.1 0), Value.ref (u.2.2.1 0), Value.ref u.2.2.2.1.1, Value.ref u.2.2.2.2.1.1, Value.ref u.2.2.2.2.2.1, Value.ref u.2.2.2.2.2.2.1.1, Value.ref u.2.2.2.2.2.2.2, Value.int 0, Value.int 0, Value.int 0]))]) ++ Wst E u.2.1) ++ Wst E u.2.2.1) ++ Whi E u.2.2.2.1) ++ Wmet u.2.2.2.2.1) ++ Wmea u.2.2.2.2.2.1) ++ Wtxt E u.2.2.2.2.2.2.1) ++ [(u.2.2.2.2.2.2.2, Sum.inl (E.2.2 0, 9, Sum.inl (fun _ => 0)))] : va_W)[k]? = _
  exact aR (ob_l6) hk
theorem wob_l : (Wob E u).length = 232 := ob_l7
end BG
