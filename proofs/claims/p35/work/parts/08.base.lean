/-! ===== small words for the walks ===== -/
def bz (P : Prop) [Decidable P] : Int32 := if P then 1 else 0
theorem bz_t {P : Prop} [Decidable P] (h : P) : bz P = 1 := if_pos h
theorem bz_f {P : Prop} [Decidable P] (h : ¬ P) : bz P = 0 := if_neg h
theorem bz_0 (P : Prop) [Decidable P] : bz P = 0 ↔ ¬ P := by
  unfold bz
  by_cases h : P
  · rw [if_pos h]; exact ⟨fun q => absurd q (by decide), fun q => absurd h q⟩
  · rw [if_neg h]; exact ⟨fun _ => h, fun _ => rfl⟩
theorem bz_n0 (P : Prop) [Decidable P] : ¬ bz P = 0 ↔ P := by
  rw [bz_0]; exact Decidable.not_not
theorem nar_bz (P : Prop) [Decidable P] : narrow .boolean (.int (bz P)) = .int (bz P) := by
  unfold bz
  by_cases h : P
  · rw [if_pos h]; rfl
  · rw [if_neg h]; rfl
theorem bz_iff {P Q : Prop} [Decidable P] [Decidable Q] (h : P ↔ Q) : bz P = bz Q := by
  unfold bz
  by_cases hp : P
  · rw [if_pos hp, if_pos (h.mp hp)]
  · rw [if_neg hp, if_neg (fun q => hp (h.mpr q))]
def oc {α : Type} (o : Option Nat) (a : α) (f : Nat → α) : α := match o with
  | none => a
  | some t => f t
theorem oc_none {α : Type} {o : Option Nat} {a : α} {f : Nat → α} (h : o = none) : oc o a f = a := by subst h; rfl
theorem oc_some {α : Type} {o : Option Nat} {a : α} {f : Nat → α} {t : Nat} (h : o = some t) : oc o a f = f t := by subst h; rfl
theorem vin {x L : Int32} (k N : Nat) (hk : k ≤ N) (hN : N < 2 ^ 31) (hL : L = nI k) (h0 : ¬ x < 0) (h1 : ¬ L ≤ x) : vp_in x N := by
  rw [vp_in_iff]
  subst hL
  rw [Int32.lt_iff_toInt_lt, Int32.toInt_zero] at h0
  rw [Int32.le_iff_toInt_le, nI_toInt (by omega)] at h1
  omega
theorem vin_lt {x : Int32} {N : Nat} (h : vp_in x N) : x.toNatClampNeg < N := Nat.not_le.mp fun q => h (Or.inr q)
theorem vp_lit (k N : Nat) (h : k < N) (hN : N < 2 ^ 31) : vp_in (nI k) N := vp_in_nI h hN
theorem tr_at {n : Nat} {f : Nat → Int32} {x y : Nat} (h : y < n) (e : x = y) : tr n f x = f y := by subst e; exact tr_lt h
theorem rf_T {E : En} {j x y : Nat} (h : y < 3) (e : x = y) : va_rf (if x < 3 then some (E.1 (iT j x)) else none) = .ref (E.1 (iT j y)) := by subst e; rw [if_pos h]; rfl
theorem rf_N {E : En} {j x y : Nat} (h : y < 6) (e : x = y) : va_rf (if x < 6 then some (E.1 (iN j x)) else none) = .ref (E.1 (iN j y)) := by subst e; rw [if_pos h]; rfl
theorem rf_K {E : En} {K : Nat → Nat} {x y : Nat} (h : y < 4) (e : x = y) : va_rf (if x < 4 then some (E.1 (iS (K x))) else none) = .ref (E.1 (iS (K y))) := by subst e; rw [if_pos h]; rfl
theorem nlt_of_le {x : Int32} (h : 0 ≤ x) : ¬ x < 0 := by
  rw [Int32.le_iff_toInt_le] at h; rw [Int32.lt_iff_toInt_lt]; omega
theorem nle_of_lt {x L : Int32} (h : x < L) : ¬ L ≤ x := by
  rw [Int32.lt_iff_toInt_lt] at h; rw [Int32.le_iff_toInt_le]; omega
theorem nz_of_pos {x : Int32} (h : ¬ x ≤ 0) : ¬ x = 0 := fun q => h (by rw [q]; decide)
theorem nz_of_posL {x : Int64} (h : ¬ x ≤ 0) : ¬ x = 0 := fun q => h (by rw [q]; decide)
theorem nz_of_pos2L {x : Int64} (h : 0 < x) : ¬ x = 0 := fun q => by rw [q] at h; exact absurd h (by decide)
theorem lgc_eq {x y : Int64} : lg_cmp x y = 0 ↔ x = y := by
  unfold lg_cmp
  by_cases h : x > y
  · rw [if_pos h]
    refine ⟨fun q => absurd q (by decide), fun q => ?_⟩
    subst q
    rw [gt_iff_lt, Int64.lt_iff_toInt_lt] at h
    omega
  · rw [if_neg h]
    by_cases h2 : x = y
    · rw [if_pos h2]; exact ⟨fun _ => h2, fun _ => rfl⟩
    · rw [if_neg h2]; exact ⟨fun q => absurd q (by decide), fun q => absurd q h2⟩
theorem ne_toInt {x k : Int32} {n : Int} (h : ¬ x = k) (hk : k.toInt = n) : x.toInt ≠ n := fun q => h (Int32.toInt_inj.mp (by rw [q, hk]))
section FO
variable {p : Program} {l : Launch} {e : Env} {R : Room} {s : State} {m : MethodId} {args : Array Value} {below : List Frame} {meth : Method} {c : Code} {H : Heap} {locs : List Loc} {cells slots : Nat} {Q : State → Prop} {pc : Nat} {ls : Array Slot} {rest : List Value}
theorem fold_i {x y : Int32} (h : x = y) (k : W p l e R s m args below meth c H locs cells slots Q (F0 m pc ls (.int y :: rest))) : W p l e R s m args below meth c H locs cells slots Q (F0 m pc ls (.int x :: rest)) := by subst h; exact k
theorem fold_l {x y : Int64} (h : x = y) (k : W p l e R s m args below meth c H locs cells slots Q (F0 m pc ls (.long y :: rest))) : W p l e R s m args below meth c H locs cells slots Q (F0 m pc ls (.long x :: rest)) := by subst h; exact k
end FO
/-! copies of rows -/
def pC (μ : Mu) (c b c' b' n : Nat) : Mu := (fun c1 x => if c1 = c ∧ b ≤ x ∧ x < b + n then μ.1 c' (b' + (x - b)) else μ.1 c1 x, μ.2)
theorem c_k3 (E : En) (μ : Mu) {i c b n : Nat} (h : tb i = (3, c, b, n)) : cell E μ i = .inl (E.2.2 0, n, .inl (tr n (fun y => μ.1 c (b + y)))) := by
  unfold cell
  rw [h]
  rfl
theorem set_pC (E : En) (μ : Mu) {i c b n c' b' : Nat} (hi : i < 232) (h : tb i = (3, c, b, n)) : (wsA E μ).set i (E.1 i, .inl (E.2.2 0, n, .inl (va_cpy (tr n (fun y => μ.1 c' (b' + y))) (tr n (fun y => μ.1 c (b + y))) 0 0 n))) = wsA E (pC μ c b c' b' n) := by
  refine wsA_set E μ _ hi ?_ (fun k hk hne => ?_)
  · rw [c_k3 E _ h]
    have hf : va_cpy (tr n (fun y => μ.1 c' (b' + y))) (tr n (fun y => μ.1 c (b + y))) 0 0 n = tr n (fun y => (pC μ c b c' b' n).1 c (b + y)) := by
      funext y
      unfold va_cpy tr pC
      by_cases hy : y < n
      · have h1 : 0 ≤ y ∧ y < 0 + n := ⟨Nat.zero_le _, by omega⟩
        have h2 : c = c ∧ b ≤ b + y ∧ b + y < b + n := ⟨rfl, by omega, by omega⟩
        rw [if_pos h1, if_pos hy]
        rw [show 0 + (y - 0) = y by omega, if_pos hy]
        show _ = if _ then _ else _
        rw [if_pos h2, show b + y - b = y by omega]
      · have h1 : ¬ (0 ≤ y ∧ y < 0 + n) := by omega
        rw [if_neg h1, if_neg hy, if_neg hy]
    rw [hf]
  · unfold cell
    congr 1
    apply tr_congr
    intro y hy
    have h1 : ¬ ((tb k).2.1 = c ∧ b ≤ (tb k).2.2.1 + y ∧ (tb k).2.2.1 + y < b + n) := by
      rintro ⟨a1, a2, a3⟩
      refine tb_out (i := i) (x := (tb k).2.2.1 + y) hi hk hne ?_ ?_ hy ⟨?_, rfl⟩
      · rw [h]; exact a2
      · rw [h]; exact a3
      · rw [h]; exact a1
    exact (if_neg h1).symm
section CP
variable {p : Program} {l : Launch} {e : Env} {R : Room} {s : State} {m : MethodId} {args : Array Value} {below : List Frame} {meth : Method} {c : Code} {H : Heap} {locs : List Loc} {cells slots : Nat} {Q : State → Prop}
variable {cc : ByteArray} {pc nL : Nat} {ls : Array Slot} {rest : List Value} {E : En} {μ : Mu} {own : String}
theorem a_cp (hw : Wk E μ s H locs) (hf : CallFix p m c cc nL s args wsL_law own) (hl : ls.size = nL) {i0 i1 c0 b0 c1 b1 N index : Nat} (hi0 : i0 < 232) (h0 : tb i0 = (3, c0, b0, N)) (hi1 : i1 < 232) (h1 : tb i1 = (3, c1, b1, N)) (hlink : Cond.methodLink own index arraycopyName ∈ wsL_law) (hnat : Cond.native arraycopyName ∈ wsL_law) (hstat : Cond.static arraycopyName ∈ wsL_law) (hini : Cond.initialized "java/lang/System" ∈ wsL_law) {n : Int32} (hn : n = nI N ∧ N < 2 ^ 31)
    (hframes : 1 ≤ R.frames) (hlocals : (rest.map fun v => v.category).sum + (nativeFrameWords "java/lang/System" "arraycopy" 5 + 11) ≤ R.locals) (hdg : decode cc pc = .ok (.invokestatic index, 3))
    (kk : ∀ (H : Heap) (locs : List Loc), Wk E (pC μ c1 b1 c0 b0 N) s H locs → W p l e R s m args below meth c H locs cells slots Q (F0 m (pc + 3) ls rest)) : W p l e R s m args below meth c H locs cells slots Q (F0 m pc ls (.int n :: .int 0 :: .ref (E.1 i1) :: .int 0 :: .ref (E.1 i0) :: rest)) := by
  obtain ⟨hx, hb, hml, hown, hts⟩ := hf
  obtain ⟨rfl, hN⟩ := hn
  have hc : (nI N).toNatClampNeg = N := nI_clamp hN
  have h00 : (0 : Int32).toNatClampNeg = 0 := rfl
  refine va_copyi (D := E.2.1) hx hb (hml.trans hl.symm) hown (hts _ hlink) (hts _ hnat) (hts _ hstat) (hts _ hini) hw.2.1 hw.1 hw.2.2.1 hw.2.2.2.1 i0 i1 0 0 ((wsA_at E μ hi0).trans (by rw [c_k3 E μ h0])) ((wsA_at E μ hi1).trans (by rw [c_k3 E μ h1])) rfl rfl rfl (by decide) (by decide) (nI_pos hN) (by rw [h00, hc]; omega) (by rw [h00, hc]; omega) (fun i _ => rfl) hframes hlocals hdg (fun H1 locs1 g1 g2 g3 => kk H1 locs1 ⟨?_, hw.2.1, wsA_D _ hw.2.2.1, g3, hw.2.2.2.2⟩)
  rw [h00, hc, set_pC E μ hi1 h1] at g1
  exact g1
end CP
theorem pC_join (μ : Mu) {c c' b n k : Nat} (h : c' ≠ c) : pC (pC μ c b c' b n) c (b + n) c' (b + n) k = pC μ c b c' b (n + k) := by
  refine Prod.ext ?_ rfl
  funext c1 x
  show (if c1 = c ∧ b + n ≤ x ∧ x < b + n + k then (if c' = c ∧ b ≤ b + n + (x - (b + n)) ∧ b + n + (x - (b + n)) < b + n then μ.1 c' (b + (b + n + (x - (b + n)) - b)) else μ.1 c' (b + n + (x - (b + n)))) else (if c1 = c ∧ b ≤ x ∧ x < b + n then μ.1 c' (b + (x - b)) else μ.1 c1 x)) = if c1 = c ∧ b ≤ x ∧ x < b + (n + k) then μ.1 c' (b + (x - b)) else μ.1 c1 x
  rw [if_neg (fun q : c' = c ∧ _ => h q.1)]
  by_cases a1 : c1 = c ∧ b + n ≤ x ∧ x < b + n + k
  · rw [if_pos a1, if_pos ⟨a1.1, by omega, by omega⟩, show b + n + (x - (b + n)) = b + (x - b) by omega]
  · rw [if_neg a1]
    by_cases a2 : c1 = c ∧ b ≤ x ∧ x < b + n
    · rw [if_pos a2, if_pos ⟨a2.1, a2.2.1, by omega⟩]
    · rw [if_neg a2, if_neg (fun q => by
        rcases Nat.lt_or_ge x (b + n) with z | z
        · exact a2 ⟨q.1, q.2.1, z⟩
        · exact a1 ⟨q.1, z, by omega⟩)]
theorem pM_pC (μ : Mu) {c c' x : Nat} : pM μ c x (μ.1 c' x) = pC μ c x c' x 1 := by
  refine Prod.ext ?_ rfl
  funext c1 y
  show (if c1 = c ∧ y = x then μ.1 c' x else μ.1 c1 y) = if c1 = c ∧ x ≤ y ∧ y < x + 1 then μ.1 c' (x + (y - x)) else μ.1 c1 y
  by_cases a1 : c1 = c ∧ y = x
  · rw [if_pos a1, if_pos ⟨a1.1, by omega, by omega⟩, show x + (y - x) = x by omega]
  · rw [if_neg a1, if_neg (fun q => a1 ⟨q.1, by omega⟩)]
theorem vin_pred {x L : Int32} (N : Nat) (hN : N < 2 ^ 31) (hL : L = nI N) (h0 : ¬ x ≤ 0) (h1 : ¬ L < x) : vp_in (x - 1) N := by
  subst hL
  rw [Int32.le_iff_toInt_le, Int32.toInt_zero] at h0
  rw [Int32.lt_iff_toInt_lt, nI_toInt hN] at h1
  obtain ⟨j, hj, rfl⟩ := nI_of (x := x) (fun q => by rw [Int32.lt_iff_toInt_lt, Int32.toInt_zero] at q; omega)
  rw [nI_toInt hj] at h0 h1
  rw [show nI j - 1 = nI (j - 1) from pk_sub (a := j) (b := 1) (by omega)]
  exact vp_in_nI (by omega) (by omega)
section PQ
variable {p : Program} {l : Launch} {e : Env} {R : Room} {s : State} {m : MethodId} {args : Array Value} {below : List Frame} {meth : Method} {c : Code} {H : Heap} {locs : List Loc} {cells slots : Nat} {Q : State → Prop}
variable {cc : ByteArray} {pc nL : Nat} {ls : Array Slot} {rest : List Value} {E : En} {μ : Mu} {own : String}
theorem p_q (hw : Wk E μ s H locs) (hf : CallFix p m c cc nL s args wsL_law own) {x : Int32} {y w : Nat} (hin : vp_in x 4) (hy : y < 4) (hx : x = nI y) (hwl : w < 6) (hdg : decode cc pc = .ok (.aastore, 1))
    (kk : ∀ (H : Heap) (locs : List Loc), Wk E (pK μ y w) s H locs → W p l e R s m args below meth c H locs cells slots Q (F0 m (pc + 1) ls rest)) : W p l e R s m args below meth c H locs cells slots Q (F0 m pc ls (.ref (E.1 (iS w)) :: .int x :: .ref (E.1 223) :: rest)) := by
  have hc : x.toNatClampNeg = y := by rw [hx]; exact nI_clamp (by omega)
  refine va_astq (D := E.2.1) (r := (RX4, TX4, 6)) hf.1 hf.2.1 hw.2.1 hw.1 hw.2.2.1 hw.2.2.2.1 223 4 (iS w) 4 ((wsA_at E μ (by decide)).trans (by rw [c_Hk])) rfl ((wsA_at E μ (lt_iS hwl)).trans (by rw [c_iS E μ hwl])) rfl hin hdg (fun H1 locs1 g1 g2 g3 => kk H1 locs1 ⟨?_, hw.2.1, wsA_D _ hw.2.2.1, g3, hw.2.2.2.2⟩)
  rw [hc, s_Hk E μ hy] at g1
  exact g1
end PQ
def mxI (x y : Int32) : Int32 := if x < y then y else x
def mnI (x y : Int32) : Int32 := if y < x then y else x
def abI (x : Int32) : Int32 := if 0 ≤ x then x else 0 - x
def mxL (x y : Int64) : Int64 := if y < x then x else y
def mnL (x y : Int64) : Int64 := if y < x then y else x
section CR
variable {p : Program} {l : Launch} {e : Env} {R : Room} {s : State} {m : MethodId} {args : Array Value} {below : List Frame} {meth : Method} {c : Code} {H : Heap} {locs : List Loc} {cells slots : Nat} {Q : State → Prop}
variable {pc : Nat} {ls : Array Slot} {rest st0 : List Value} {E : En} {μ : Mu}
/-- calls that only read -/
theorem c_iR {a : Array Value} {r0 : Int32} {μ1 : Mu} (hw : Wk E μ s H locs) (hr : va_Run p l e R s m args below meth c H locs cells slots 0 0 (F0 m pc ls st0) rest ((va_Qi (fun r u => r = (r0, μ1).1 ∧ u = (r0, μ1).2) (fun u t => WdU E u t) (inE E)) a) (inE E))
    (kk : ∀ (H : Heap) (locs : List Loc), Wk E μ1 s H locs → W p l e R s m args below meth c H locs cells slots Q (F0 m (pc + 3) ls (.int r0 :: rest))) : W p l e R s m args below meth c H locs cells slots Q (F0 m pc ls st0) := c_i hw hr kk
theorem c_lR {a : Array Value} {r0 : Int64} {μ1 : Mu} (hw : Wk E μ s H locs) (hr : va_Run p l e R s m args below meth c H locs cells slots 0 0 (F0 m pc ls st0) rest ((va_Ql (fun r u => r = (r0, μ1).1 ∧ u = (r0, μ1).2) (fun u t => WdU E u t) (inE E)) a) (inE E))
    (kk : ∀ (H : Heap) (locs : List Loc), Wk E μ1 s H locs → W p l e R s m args below meth c H locs cells slots Q (F0 m (pc + 3) ls (.long r0 :: rest))) : W p l e R s m args below meth c H locs cells slots Q (F0 m pc ls st0) := c_l hw hr kk
end CR
