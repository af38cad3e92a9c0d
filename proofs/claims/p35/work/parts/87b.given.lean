/-! ===== the law's start: classes, arrays, static tables ===== -/
theorem nws_of {args : Array Value} {s : State} (hts : ∀ w ∈ lw_tbl, w.before args s = true) : NWs s := ⟨va_Nw.of rfl (hts _ (List.mem_of_getElem? (i := 38) (by decide +kernel))), va_Nw.of rfl (hts _ (List.mem_of_getElem? (i := 56) (by decide +kernel))), va_Nw.of rfl (hts _ (List.mem_of_getElem? (i := 175) (by decide +kernel))), va_Nw.of rfl (hts _ (List.mem_of_getElem? (i := 181) (by decide +kernel))), va_Nw.of rfl (hts _ (List.mem_of_getElem? (i := 249) (by decide +kernel))), va_Nw.of rfl (hts _ (List.mem_of_getElem? (i := 252) (by decide +kernel))), va_Nw.of rfl (hts _ (List.mem_of_getElem? (i := 129) (by decide +kernel)))⟩
theorem aos_of {args : Array Value} {s : State} (hts : ∀ w ∈ lw_tbl, w.before args s = true) : AOs s := ⟨va_AO.of (hts _ (List.mem_of_getElem? (i := 34) (by decide +kernel))), va_AO.of (hts _ (List.mem_of_getElem? (i := 36) (by decide +kernel))), va_AO.of (hts _ (List.mem_of_getElem? (i := 163) (by decide +kernel)))⟩
theorem arr_p {args : Array Value} {s : State} {ty : FieldType} (h : (Cond.arrayClass ty).before args s = true) (hra : ∀ cA, s.vm.findClass ("[" ++ ty.toString) = some cA → va_RA s cA ty) (hrk : refKind ty = false) : ∃ cA, ArrOfT s cA ty ∧ va_RA s cA ty := by
  obtain ⟨cA, kA, comp, h1, h2, h3⟩ := Cond.arrayClass_spec h
  exact ⟨cA, fun n z => ⟨fun k q => (by cases q), kA, h2, comp, h3⟩, hra _ h1⟩
theorem arr_o {s : State} {C : String} (h : va_AO C s) : ∃ cA, ArrOfT s cA (.object C) ∧ va_RA s cA (.object C) := by
  obtain ⟨comp, cA, k, h1, -, h3, h4, h5⟩ := Cond.arrayOver_spec h
  exact ⟨cA, fun n z => ⟨fun k q => (by cases q), k, h3, comp, h4⟩, k, comp, h3, h4, h1, h5⟩
theorem k_of {args : Array Value} {s : State} (hts : ∀ w ∈ wsL_law, w.before args s = true) (hao : AOs s) : ∃ (G : va_G) (dA : Nat → ClassId), ∀ f : Nat → Nat, va_K G vwCl (tysE (f, G, dA)) s := by
  obtain ⟨c0, i0, k0⟩ := u_known (C := RX0) (T := TX0) (N := 2) (n := 2) hts inlX0 (hts _ q26)
  obtain ⟨c1, i1, k1⟩ := u_known (C := RX1) (T := TX1) (N := 11) (n := 11) hts inlX1 (hts _ q34)
  obtain ⟨c2, i2, k2⟩ := u_known (C := RX2) (T := TX2) (N := 5) (n := 5) hts inlX2 (hts _ q30)
  obtain ⟨c3, i3, k3⟩ := u_known (C := RX3) (T := TX3) (N := 15) (n := 15) hts inlX3 (hts _ q55)
  obtain ⟨c4, i4, k4⟩ := u_known (C := RX4) (T := TX4) (N := 6) (n := 6) hts inlX4 (hts _ q21)
  obtain ⟨c5, i5, k5⟩ := u_known (C := RX5) (T := TX5) (N := 3) (n := 3) hts inlX5 (hts _ q53)
  obtain ⟨c6, i6, k6⟩ := u_known (C := RX6) (T := TX6) (N := 6) (n := 6) hts inlX6 (hts _ q38)
  obtain ⟨c7, i7, k7⟩ := u_known (C := RX7) (T := TX7) (N := 10) (n := 10) hts inlX7 (hts _ q1)
  obtain ⟨a0, p0⟩ := arr_p (hts _ q41) (fun _ h => h) rfl
  obtain ⟨a1, p1⟩ := arr_p (hts _ q92) (fun _ h => h) rfl
  obtain ⟨a2, p2⟩ := arr_o hao.1
  obtain ⟨a3, p3⟩ := arr_o hao.2.1
  obtain ⟨a4, p4⟩ := arr_o hao.2.2
  refine ⟨(fun k => ([c0, c1, c2, c3, c4, c5, c6, c7] : List ClassId).getD k c0, fun k => ([i0, i1, i2, i3, i4, i5, i6, i7] : List (Nat → Nat)).getD k i0), fun k => ([a0, a1, a2, a3, a4] : List ClassId).getD k a0, fun f => ⟨fun k q hq => ?_, fun k q hq => ?_⟩⟩
  · match k, hq with
    | 0, hq => cases hq; exact k0
    | 1, hq => cases hq; exact k1
    | 2, hq => cases hq; exact k2
    | 3, hq => cases hq; exact k3
    | 4, hq => cases hq; exact k4
    | 5, hq => cases hq; exact k5
    | 6, hq => cases hq; exact k6
    | 7, hq => cases hq; exact k7
    | k + 8, hq => simp [vwCl] at hq
  · match k, hq with
    | 0, hq => cases hq; exact p0
    | 1, hq => cases hq; exact p1
    | 2, hq => cases hq; exact p2
    | 3, hq => cases hq; exact p3
    | 4, hq => cases hq; exact p4
    | k + 5, hq => simp [tysE] at hq
/-- a static table, out of the statement's words -/
theorem tab_of {args : Array Value} {s : State} {n : String} {N : Nat} {zz : List Int32} (hl : (Cond.laysStatic "OhmBridge" n "[I").before args s = true) (hini : (Cond.initialized "OhmBridge").before args s = true) (hN : N < 2 ^ 31) (harr : (Cond.arrayOf (.static "OhmBridge" n "[I") .int).before args s = true) (hlen : (Cond.eq (.length (.static "OhmBridge" n "[I")) (.int (Int32.ofNat N))).before args s = true) (hel : ∀ j : Nat, j < N → (Cond.eq (.elem (.static "OhmBridge" n "[I") (.int (Int32.ofNat j))) (.int (zz.getD j 0))).before args s = true) : ∃ t : Nat, va_Z "OhmBridge" n "[I" (.ref t) (fun q => s.heap.size ≤ q) s s.heap ∧ va_T .int t N (zl zz) (fun q => s.heap.size ≤ q) s s.heap := by
  obtain ⟨t, h1, h2⟩ := va_Tof (f := zl zz) (A := fun q => s.heap.size ≤ q) hN harr (va_eqt hlen) (fun j hj => va_eqt (hel j hj)) (fun a h => Nat.not_le.mpr h)
  exact ⟨t, va_Zof hl hini h1 (fun a h => Nat.not_le.mpr h), h2⟩
theorem tab_0 {args : Array Value} {s : State} (hts : ∀ w ∈ lw_tbl, w.before args s = true) (hs : ∀ w ∈ flatC (Jvm.Cond.and given_1 narrow_1), w.before args s = true) : ∃ t : Nat, va_Z "OhmBridge" "LEAST_SETTING" "[I" (.ref t) (fun q => s.heap.size ≤ q) s s.heap ∧ va_T .int t 7 (zl zl0) (fun q => s.heap.size ≤ q) s s.heap := by
  refine tab_of (hts _ (List.mem_of_getElem? (i := 518) (by decide +kernel))) (hts _ (wsL_tbl _ q2)) (by decide) (hs _ (by decide +kernel)) (hs _ (by decide +kernel)) (fun j hj => ?_)
  match j, hj with
  | 0, _ => exact hs _ (by decide +kernel)
  | 1, _ => exact hs _ (by decide +kernel)
  | 2, _ => exact hs _ (by decide +kernel)
  | 3, _ => exact hs _ (by decide +kernel)
  | 4, _ => exact hs _ (by decide +kernel)
  | 5, _ => exact hs _ (by decide +kernel)
  | 6, _ => exact hs _ (by decide +kernel)
  | j + 7, hj => exact absurd hj (by omega)
theorem tab_1 {args : Array Value} {s : State} (hts : ∀ w ∈ lw_tbl, w.before args s = true) (hs : ∀ w ∈ flatC (Jvm.Cond.and given_1 narrow_1), w.before args s = true) : ∃ t : Nat, va_Z "OhmBridge" "GREATEST_SETTING" "[I" (.ref t) (fun q => s.heap.size ≤ q) s s.heap ∧ va_T .int t 7 (zl zl1) (fun q => s.heap.size ≤ q) s s.heap := by
  refine tab_of (hts _ (List.mem_of_getElem? (i := 520) (by decide +kernel))) (hts _ (wsL_tbl _ q2)) (by decide) (hs _ (by decide +kernel)) (hs _ (by decide +kernel)) (fun j hj => ?_)
  match j, hj with
  | 0, _ => exact hs _ (by decide +kernel)
  | 1, _ => exact hs _ (by decide +kernel)
  | 2, _ => exact hs _ (by decide +kernel)
  | 3, _ => exact hs _ (by decide +kernel)
  | 4, _ => exact hs _ (by decide +kernel)
  | 5, _ => exact hs _ (by decide +kernel)
  | 6, _ => exact hs _ (by decide +kernel)
  | j + 7, hj => exact absurd hj (by omega)
theorem tab_2 {args : Array Value} {s : State} (hts : ∀ w ∈ lw_tbl, w.before args s = true) (hs : ∀ w ∈ flatC (Jvm.Cond.and given_1 narrow_1), w.before args s = true) : ∃ t : Nat, va_Z "OhmBridge" "LEAST_STRAIN" "[I" (.ref t) (fun q => s.heap.size ≤ q) s s.heap ∧ va_T .int t 3 (zl zl2) (fun q => s.heap.size ≤ q) s s.heap := by
  refine tab_of (hts _ (List.mem_of_getElem? (i := 454) (by decide +kernel))) (hts _ (wsL_tbl _ q2)) (by decide) (hs _ (by decide +kernel)) (hs _ (by decide +kernel)) (fun j hj => ?_)
  match j, hj with
  | 0, _ => exact hs _ (by decide +kernel)
  | 1, _ => exact hs _ (by decide +kernel)
  | 2, _ => exact hs _ (by decide +kernel)
  | j + 3, hj => exact absurd hj (by omega)
theorem tab_3 {args : Array Value} {s : State} (hts : ∀ w ∈ lw_tbl, w.before args s = true) (hs : ∀ w ∈ flatC (Jvm.Cond.and given_1 narrow_1), w.before args s = true) : ∃ t : Nat, va_Z "OhmBridge" "GREATEST_STRAIN" "[I" (.ref t) (fun q => s.heap.size ≤ q) s s.heap ∧ va_T .int t 3 (zl zl3) (fun q => s.heap.size ≤ q) s s.heap := by
  refine tab_of (hts _ (List.mem_of_getElem? (i := 456) (by decide +kernel))) (hts _ (wsL_tbl _ q2)) (by decide) (hs _ (by decide +kernel)) (hs _ (by decide +kernel)) (fun j hj => ?_)
  match j, hj with
  | 0, _ => exact hs _ (by decide +kernel)
  | 1, _ => exact hs _ (by decide +kernel)
  | 2, _ => exact hs _ (by decide +kernel)
  | j + 3, hj => exact absurd hj (by omega)
theorem tab_4 {args : Array Value} {s : State} (hts : ∀ w ∈ lw_tbl, w.before args s = true) (hs : ∀ w ∈ flatC (Jvm.Cond.and given_1 narrow_1), w.before args s = true) : ∃ t : Nat, va_Z "OhmBridge" "FIRST_SETTING" "[I" (.ref t) (fun q => s.heap.size ≤ q) s s.heap ∧ va_T .int t 7 (zl zl4) (fun q => s.heap.size ≤ q) s s.heap := by
  refine tab_of (hts _ (List.mem_of_getElem? (i := 130) (by decide +kernel))) (hts _ (wsL_tbl _ q2)) (by decide) (hs _ (by decide +kernel)) (hs _ (by decide +kernel)) (fun j hj => ?_)
  match j, hj with
  | 0, _ => exact hs _ (by decide +kernel)
  | 1, _ => exact hs _ (by decide +kernel)
  | 2, _ => exact hs _ (by decide +kernel)
  | 3, _ => exact hs _ (by decide +kernel)
  | 4, _ => exact hs _ (by decide +kernel)
  | 5, _ => exact hs _ (by decide +kernel)
  | 6, _ => exact hs _ (by decide +kernel)
  | j + 7, hj => exact absurd hj (by omega)
