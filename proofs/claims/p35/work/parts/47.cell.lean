/-! ===== the law: cell ===== -/
theorem andm (x : Int32) : 0 ≤ (x &&& 2147483647).toInt := by
  have h : (x.toBitVec &&& 2147483647#32).toNat < 2147483648 := by
    rw [BitVec.toNat_and]
    exact Nat.lt_of_le_of_lt Nat.and_le_right (by decide)
  show 0 ≤ (x.toBitVec &&& 2147483647#32).toInt
  rw [BitVec.toInt_eq_toNat_of_lt (by omega)]
  omega
/-- what cell has at its entry: the bridge's world, the script -/
abbrev CX (E : En) (μ : Mu) (b L : Nat) (xs : Nat → Int32) (U : State) : Prop := WdU E μ U ∧ va_X b L xs U U.heap ∧ b < U.heap.size ∧ ¬ inE E b
set_option maxHeartbeats 4000000 in
set_option maxRecDepth 100000 in
theorem k_L_cell (l : Launch) (E : En) (μ : Mu) {b L : Nat} {xs : Nat → Int32} {k : Int32} (hL : L < 2 ^ 31) (hk : ¬ k < 0) : Met l yL_cell (wsM yL_cell cL_cell 2 (some .int)) ({ frames := 0, cells := 0, slots := 0, locals := 0 }) (va_Pc [.ref b, .int k] (CX E μ b L xs)) (va_Qi (fun r u => 0 ≤ r.toInt ∧ u = μ) (fun u t => WdU E u t) (inE E)) 0 0 (inE E) := by
  refine Met.ofW (cc := cL_cell) (maxL := 2) (ret := some .int) (by decide +kernel) rfl ?_
  intro p e s m args below meth c s₁ B hml hv
  obtain ⟨rfl, hw0, hX, hbl, hbA⟩ := hv
  have hts := atoms_spec (ws := wsM yL_cell cL_cell 2 (some .int)) B.pre
  have hown : s.vm.findClass yL_cell.cls = some m.cls := findClass_of_methodNamed B.named
  have hl := lv_entry ([.ref b, .int k]) (n := 2) (Nat.le_of_ble_eq_true rfl)
  rw [lg_entry_eq]
  have hf : CallFix p m c cL_cell 2 s ([.ref b, .int k] : List Value).toArray wsL_law RL := ⟨B.exec, B.bytes, hml, hown, fun w h => hts w (List.mem_cons_of_mem _ h)⟩
  have hr := B.returns
  have hlocks := B.notSynchronized
  have hw := WdU_Wk hw0
  have hx := hf.1
  have hb := hf.2.1
  generalize (lg_sl ([.ref b, .int k]) ++ List.replicate (2 - (lg_sl ([.ref b, .int k])).length) Slot.unset).toArray = ls at hl ⊢
  have hl : lv_has ls 2 [(0, .ref b), (1, .int k)] := hl
  refine lv_iload_n hx hb dL_cell_0 rfl (lv_at hl 1 rfl) ?_
  refine lv_aload_n hx hb dL_cell_1 rfl (lv_at hl 0 rfl) ?_
  refine va_slen hx hb hX hbl hbA hw.2.2.2.1 dL_cell_2 ?_
  refine lv_icmp_ge (tgt := 12) hx hb dL_cell_3 (by decide) (fun c1 => ?_) (fun c1 => ?_)
  · refine lv_ldc hx hb hf.2.2.2.1 (hf.2.2.2.2 _ q385) dL_cell_12 ?_
    refine lv_iload_n hx hb dL_cell_14 rfl (lv_at hl 1 rfl) ?_
    refine lv_bipush (v := 7) hx hb dL_cell_15 (by decide) ?_
    refine lv_iadd hx hb dL_cell_17 ?_
    refine lv_imul hx hb dL_cell_18 ?_
    refine lv_ldc hx hb hf.2.2.2.1 (hf.2.2.2.2 _ q386) dL_cell_19 ?_
    refine lv_iand hx hb dL_cell_21 ?_
    exact e_iP hf hr hlocks hw rfl ⟨andm _, rfl⟩ dL_cell_22
  · refine lv_aload_n hx hb dL_cell_6 rfl (lv_at hl 0 rfl) ?_
    refine lv_iload_n hx hb dL_cell_7 rfl (lv_at hl 1 rfl) ?_
    refine va_sld hx hb hX hbl hbA hw.2.2.2.1 (vin L L (Nat.le_refl _) hL rfl hk c1) dL_cell_8 ?_
    refine lv_goto (tgt := 19) hx hb dL_cell_9 (by decide) ?_
    refine lv_ldc hx hb hf.2.2.2.1 (hf.2.2.2.2 _ q386) dL_cell_19 ?_
    refine lv_iand hx hb dL_cell_21 ?_
    exact e_iP hf hr hlocks hw rfl ⟨andm _, rfl⟩ dL_cell_22
theorem CX_blind {E : En} {μ : Mu} {b L : Nat} {xs : Nat → Int32} {av : List Value} : FrameBlind (va_Pc av (CX E μ b L xs)) := fun _ U g mk q => ⟨q.1, WdU_blind q.2.1, va_X.moved (Vm.Alike.refl U.vm) q.2.2.1, q.2.2.2.1, q.2.2.2.2⟩
theorem Wk_X {E : En} {μ : Mu} {s U : State} {H : Heap} {locs : List Loc} {b L : Nat} {xs : Nat → Int32} (h : Wk E μ s H locs) (hX : va_X b L xs s s.heap) (hbl : b < s.heap.size) (hbA : ¬ inE E b) (hU : U.heap = H) (hW : s.WarmedH U.vm) : CX E μ b L xs U := ⟨Wk_U h hU hW, by rw [hU]; exact (hX.kept (h.2.2.2.1.2.1 b hbl hbA)).moved hW.alike, by rw [hU]; exact Nat.lt_of_lt_of_le hbl h.2.2.2.1.1, hbA⟩
section CE
variable {p : Program} {l : Launch} {e : Env} {R : Room} {s : State} {m : MethodId} {args : Array Value} {below : List Frame} {meth : Method} {c : Code} {H : Heap} {locs : List Loc} {cells slots : Nat} {Q : State → Prop}
variable {cc : ByteArray} {pc nL : Nat} {ls : Array Slot} {rest : List Value} {E : En} {μ : Mu}
/-- the law's call of cell -/
theorem c_cell (hf : CallFix p m c cc nL s args wsL_law RL) (hw : Wk E μ s H locs) {b L : Nat} {xs : Nat → Int32} (hX : va_X b L xs s s.heap) (hbl : b < s.heap.size) (hbA : ¬ inE E b) (hL : L < 2 ^ 31) {k : Int32} (hk : ¬ k < 0) (hR : 1 ≤ R.frames ∧ 21 ≤ R.locals) (hl : ls.size = nL) (hW : (rest.map fun v => v.category).sum ≤ 8) (hdg : decode cc pc = .ok (.invokestatic 74, 3)) (hcap : cells + 0 ≤ R.cells ∧ slots + 0 ≤ R.slots)
    (kk : ∀ (r : Int32) (H : Heap) (locs : List Loc), 0 ≤ r.toInt → Wk E μ s H locs → W p l e R s m args below meth c H locs cells slots Q (F0 m (pc + 3) ls (.int r :: rest))) : W p l e R s m args below meth c H locs cells slots Q (F0 m pc ls (.int k :: .ref b :: rest)) :=
  c_iQ hw (va_runS (As := [.ref b, .int k]) (rest := rest) hf (k_L_cell l E μ (b := b) (L := L) (xs := xs) hL hk) (va_cwS 2 hf.2.2.2.2 (gl_S q382 q383 q96 q384) rfl rfl rfl ⟨by decide +kernel, by decide +kernel, by decide +kernel⟩ ⟨hR.1, hR.2⟩) ⟨CX_blind, fun U hU hW => ⟨rfl, Wk_X hw hX hbl hbA hU hW⟩⟩ rfl rfl hl rfl (lv_room hW) hdg hcap) (fun r u H locs hp hw => kk r H locs hp.1 (hp.2 ▸ hw))
end CE
