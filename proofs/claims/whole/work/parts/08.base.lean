/-! ===== small words for the walks ===== -/
def bz (P : Prop) [Decidable P] : Int32 := if P then 1 else 0
theorem bz_t {P : Prop} [Decidable P] (h : P) : bz P = 1 := if_pos h
theorem bz_f {P : Prop} [Decidable P] (h : ¬ P) : bz P = 0 := if_neg h
theorem bz_0 (P : Prop) [Decidable P] : bz P = 0 ↔ ¬ P := by
  unfold bz
  by_cases h : P
  · rw [if_pos h]; exact ⟨fun q => absurd q (by decide), fun q => absurd h q⟩
  · rw [if_neg h]; exact ⟨fun _ => h, fun _ => rfl⟩
theorem bz_n0 (P : Prop) [Decidable P] : ¬ bz P = 0 ↔ P := by
  rw [bz_0]; exact Decidable.not_not
theorem nar_bz (P : Prop) [Decidable P] : narrow .boolean (.int (bz P)) = .int (bz P) := by
  unfold bz
  by_cases h : P
  · rw [if_pos h]; rfl
  · rw [if_neg h]; rfl
theorem bz_iff {P Q : Prop} [Decidable P] [Decidable Q] (h : P ↔ Q) : bz P = bz Q := by
  unfold bz
  by_cases hp : P
  · rw [if_pos hp, if_pos (h.mp hp)]
  · rw [if_neg hp, if_neg (fun q => hp (h.mpr q))]
def oc {α : Type} (o : Option Nat) (a : α) (f : Nat → α) : α := match o with
  | none => a
  | some t => f t
theorem oc_none {α : Type} {o : Option Nat} {a : α} {f : Nat → α} (h : o = none) : oc o a f = a := by subst h; rfl
theorem oc_some {α : Type} {o : Option Nat} {a : α} {f : Nat → α} {t : Nat} (h : o = some t) : oc o a f = f t := by subst h; rfl
theorem vin {x L : Int32} (k N : Nat) (hk : k ≤ N) (hN : N < 2 ^ 31) (hL : L = nI k) (h0 : ¬ x < 0) (h1 : ¬ L ≤ x) : vp_in x N := by
  rw [vp_in_iff]
  subst hL
  rw [Int32.lt_iff_toInt_lt, Int32.toInt_zero] at h0
  rw [Int32.le_iff_toInt_le, nI_toInt (by omega)] at h1
  omega
theorem vin_lt {x : Int32} {N : Nat} (h : vp_in x N) : x.toNatClampNeg < N := Nat.not_le.mp fun q => h (Or.inr q)
theorem vp_lit (k N : Nat) (h : k < N) (hN : N < 2 ^ 31) : vp_in (nI k) N := vp_in_nI h hN
theorem tr_at {n : Nat} {f : Nat → Int32} {x y : Nat} (h : y < n) (e : x = y) : tr n f x = f y := by subst e; exact tr_lt h
theorem rf_T {E : En} {j x y : Nat} (h : y < 3) (e : x = y) : va_rf (if x < 3 then some (E.1 (iT j x)) else none) = .ref (E.1 (iT j y)) := by subst e; rw [if_pos h]; rfl
theorem rf_N {E : En} {j x y : Nat} (h : y < 6) (e : x = y) : va_rf (if x < 6 then some (E.1 (iN j x)) else none) = .ref (E.1 (iN j y)) := by subst e; rw [if_pos h]; rfl
theorem rf_K {E : En} {K : Nat → Nat} {x y : Nat} (h : y < 4) (e : x = y) : va_rf (if x < 4 then some (E.1 (iS (K x))) else none) = .ref (E.1 (iS (K y))) := by subst e; rw [if_pos h]; rfl
theorem nlt_of_le {x : Int32} (h : 0 ≤ x) : ¬ x < 0 := by
  rw [Int32.le_iff_toInt_le] at h; rw [Int32.lt_iff_toInt_lt]; omega
theorem nle_of_lt {x L : Int32} (h : x < L) : ¬ L ≤ x := by
  rw [Int32.lt_iff_toInt_lt] at h; rw [Int32.le_iff_toInt_le]; omega
theorem nz_of_pos {x : Int32} (h : ¬ x ≤ 0) : ¬ x = 0 := fun q => h (by rw [q]; decide)
theorem nz_of_posL {x : Int64} (h : ¬ x ≤ 0) : ¬ x = 0 := fun q => h (by rw [q]; decide)
theorem nz_of_pos2L {x : Int64} (h : 0 < x) : ¬ x = 0 := fun q => by rw [q] at h; exact absurd h (by decide)
theorem lgc_eq {x y : Int64} : lg_cmp x y = 0 ↔ x = y := by
  unfold lg_cmp
  by_cases h : x > y
  · rw [if_pos h]
    refine ⟨fun q => absurd q (by decide), fun q => ?_⟩
    subst q
    rw [gt_iff_lt, Int64.lt_iff_toInt_lt] at h
    omega
  · rw [if_neg h]
    by_cases h2 : x = y
    · rw [if_pos h2]; exact ⟨fun _ => h2, fun _ => rfl⟩
    · rw [if_neg h2]; exact ⟨fun q => absurd q (by decide), fun q => absurd q h2⟩
theorem ne_toInt {x k : Int32} {n : Int} (h : ¬ x = k) (hk : k.toInt = n) : x.toInt ≠ n := fun q => h (Int32.toInt_inj.mp (by rw [q, hk]))
section FO
variable {p : Program} {l : Launch} {e : Env} {R : Room} {s : State} {m : MethodId} {args : Array Value} {below : List Frame} {meth : Method} {c : Code} {H : Heap} {locs : List Loc} {cells slots : Nat} {Q : State → Prop} {pc : Nat} {ls : Array Slot} {rest : List Value}
theorem fold_i {x y : Int32} (h : x = y) (k : W p l e R s m args below meth c H locs cells slots Q (F0 m pc ls (.int y :: rest))) : W p l e R s m args below meth c H locs cells slots Q (F0 m pc ls (.int x :: rest)) := by subst h; exact k
theorem fold_l {x y : Int64} (h : x = y) (k : W p l e R s m args below meth c H locs cells slots Q (F0 m pc ls (.long y :: rest))) : W p l e R s m args below meth c H locs cells slots Q (F0 m pc ls (.long x :: rest)) := by subst h; exact k
end FO
