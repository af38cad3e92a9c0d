/-! ===== ROWS: the world at a walk, one row an instruction, one a call ===== -/
def Wk (E : En) (μ : Mu) (s : State) (H : Heap) (locs : List Loc) : Prop := va_P E.2.1 vwCl (wsA E μ) H ∧ va_K E.2.1 vwCl (tysE E) s ∧ va_D (inE E) (wsA E μ) ∧ va_S (inE E) s.heap H locs ∧ SZ E s s.heap
theorem WdU_Wk {E : En} {μ : Mu} {s : State} (h : WdU E μ s) : Wk E μ s s.heap [] := ⟨h.1, h.2.1, h.2.2.1, va_S.rf, h.2.2.2⟩
theorem WdU_blind {E : En} {μ : Mu} {U : State} {g : JFrame} {mk : MethodId} {a : Array Value} (h : WdU E μ U) : WdU E μ (U.calling g mk a) := ⟨h.1, va_K.moved (u := U) (U := U.calling g mk a) (Vm.Alike.refl U.vm) h.2.1, h.2.2.1, SZ.moved (u := U) (U := U.calling g mk a) (Vm.Alike.refl U.vm) h.2.2.2⟩
/-- a call's pre, out of the walk's world -/
theorem Wk_U {E : En} {μ : Mu} {s U : State} {H : Heap} {locs : List Loc} (h : Wk E μ s H locs) (hU : U.heap = H) (hW : s.WarmedH U.vm) : WdU E μ U := ⟨by rw [hU]; exact h.1, va_K.moved hW.alike h.2.1, h.2.2.1, by rw [hU]; exact (h.2.2.2.2.kept h.2.2.2.1.2.1).moved hW.alike⟩
theorem Wk_back {E : En} {μ μ' : Mu} {s t : State} {H H1 : Heap} {locs locs1 : List Loc} (h : Wk E μ s H locs) (ht : t.heap = H1) (hB : WdU E μ' t) (hS : va_S (inE E) s.heap H1 locs1) : Wk E μ' s H1 locs1 := ⟨by rw [← ht]; exact hB.1, h.2.1, hB.2.2.1, hS, h.2.2.2.2⟩
section RW
variable {p : Program} {l : Launch} {e : Env} {R : Room} {s : State} {m : MethodId} {args : Array Value} {below : List Frame} {meth : Method} {c : Code} {H : Heap} {locs : List Loc} {cells slots : Nat} {Q : State → Prop}
variable {cc : ByteArray} {pc nL : Nat} {ls : Array Slot} {rest : List Value} {E : En} {μ : Mu} {own : String}
theorem g_f (hw : Wk E μ s H locs) (hf : CallFix p m c cc nL s args wsL_law own) {i : Nat} (hi : i < 232) {ci : Nat} {fs : List Value} (hc : cell E μ i = .inr (ci, fs)) {C : String} {T : u_T} {N : Nat} (hcl : vwCl[ci]? = some (C, T, N)) (hin : ∀ w ∈ u_ws C T N, w ∈ wsL_law) (k : Nat) (hk : k < N) {ref : String} {index : Nat} (href : (T k).1 = ref) (hlink : Cond.fieldLink own index ref (T k).2.1 (T k).2.2.1 ∈ wsL_law) {v : Value} (hv : fs[k]? = some v) (hdg : decode cc pc = .ok (.getfield index, 3))
    (kk : W p l e R s m args below meth c H locs cells slots Q (F0 m (pc + 3) ls (v :: rest))) : W p l e R s m args below meth c H locs cells slots Q (F0 m pc ls (.ref (E.1 i) :: rest)) := by
  obtain ⟨hx, hb, -, hown, hts⟩ := hf
  subst href
  exact va_get (D := E.2.1) hx hb hts hin hown hw.2.1 hw.1 i ((wsA_at E μ hi).trans (by rw [hc])) hcl k hk (hts _ hlink) (fun _ h => h) hv hdg kk
theorem p_f (hw : Wk E μ s H locs) (hf : CallFix p m c cc nL s args wsL_law own) {i : Nat} (hi : i < 232) {ci : Nat} {fs : List Value} (hc : cell E μ i = .inr (ci, fs)) {C : String} {T : u_T} {N : Nat} (hcl : vwCl[ci]? = some (C, T, N)) (hin : ∀ w ∈ u_ws C T N, w ∈ wsL_law) {ty0 : Nat → FieldType} (hty : ∀ k, k < N → parseFieldDescriptor (T k).2.2.1 = some (ty0 k)) (hnm : ∀ a, a < N → ∀ b, b < N → a ≠ b → (T a).2.1 ≠ (T b).2.1) (k : Nat) (hk : k < N) {ref : String} {index : Nat} (href : (T k).1 = ref) (hlink : Cond.fieldLink own index ref (T k).2.1 (T k).2.2.1 ∈ wsL_law) (hfin : (T k).2.2.2 = false) {v : Value} (hn : narrow (ty0 k) v = v) (hfit : fits (ty0 k) v = true) (hl : k < fs.length) {μ' : Mu} (hset : (wsA E μ).set i (E.1 i, .inr (ci, fs.set k v)) = wsA E μ') (hdg : decode cc pc = .ok (.putfield index, 3))
    (kk : ∀ (H : Heap) (locs : List Loc), Wk E μ' s H locs → W p l e R s m args below meth c H locs cells slots Q (F0 m (pc + 3) ls rest)) : W p l e R s m args below meth c H locs cells slots Q (F0 m pc ls (v :: .ref (E.1 i) :: rest)) := by
  obtain ⟨hx, hb, -, hown, hts⟩ := hf
  subst href
  refine va_put (D := E.2.1) hx hb hts hin ty0 hty hnm hown hw.2.1 hw.1 hw.2.2.1 hw.2.2.2.1 i ((wsA_at E μ hi).trans (by rw [hc])) hcl k hk (hts _ hlink) (fun _ h => h) hfin (hty k hk) hn hfit hl hdg (fun H1 locs1 h1 h2 h3 => kk H1 locs1 ⟨?_, hw.2.1, wsA_D _ hw.2.2.1, h3, hw.2.2.2.2⟩)
  rw [hset] at h1
  exact h1
theorem g_a (hw : Wk E μ s H locs) (hf : CallFix p m c cc nL s args wsL_law own) {i : Nat} (hi : i < 232) {N : Nat} {f : Nat → Int32} (hc : cell E μ i = .inl (E.2.2 0, N, .inl f)) {x v : Int32} (hin : vp_in x N) (hv : f x.toNatClampNeg = v) (hdg : decode cc pc = .ok (.iaload, 1))
    (kk : W p l e R s m args below meth c H locs cells slots Q (F0 m (pc + 1) ls (.int v :: rest))) : W p l e R s m args below meth c H locs cells slots Q (F0 m pc ls (.int x :: .ref (E.1 i) :: rest)) := by
  subst hv
  exact va_iald (D := E.2.1) hf.1 hf.2.1 hw.2.1 hw.1 i 0 ((wsA_at E μ hi).trans (by rw [hc])) rfl hin hdg kk
theorem g_c (hw : Wk E μ s H locs) (hf : CallFix p m c cc nL s args wsL_law own) {i : Nat} (hi : i < 232) {N : Nat} {f : Nat → Int32} (hc : cell E μ i = .inl (E.2.2 1, N, .inl f)) {x v : Int32} (hin : vp_in x N) (hv : f x.toNatClampNeg = v) (hdg : decode cc pc = .ok (.caload, 1))
    (kk : W p l e R s m args below meth c H locs cells slots Q (F0 m (pc + 1) ls (.int v :: rest))) : W p l e R s m args below meth c H locs cells slots Q (F0 m pc ls (.int x :: .ref (E.1 i) :: rest)) := by
  subst hv
  exact va_cald (D := E.2.1) hf.1 hf.2.1 hw.2.1 hw.1 i 1 ((wsA_at E μ hi).trans (by rw [hc])) rfl hin hdg kk
theorem g_q (hw : Wk E μ s H locs) (hf : CallFix p m c cc nL s args wsL_law own) {i : Nat} (hi : i < 232) {N t0 : Nat} {C : String} {cA : ClassId} {f : Nat → Option Nat} (hc : cell E μ i = .inl (cA, N, .inr (.inr (.inr (.inr f))))) (ht : (tysE E)[t0]? = some (cA, .object C)) {x : Int32} {v : Value} (hin : vp_in x N) (hv : va_rf (f x.toNatClampNeg) = v) (hdg : decode cc pc = .ok (.aaload, 1))
    (kk : W p l e R s m args below meth c H locs cells slots Q (F0 m (pc + 1) ls (v :: rest))) : W p l e R s m args below meth c H locs cells slots Q (F0 m pc ls (.int x :: .ref (E.1 i) :: rest)) := by
  subst hv
  exact va_aldq (D := E.2.1) hf.1 hf.2.1 hw.2.1 hw.1 i t0 ((wsA_at E μ hi).trans (by rw [hc])) ht hin hdg kk
theorem g_n (hw : Wk E μ s H locs) (hf : CallFix p m c cc nL s args wsL_law own) {i : Nat} (hi : i < 232) {t0 : Nat} {ty : FieldType} {cA : ClassId} {a : vp_A} (hc : cell E μ i = .inl (cA, a)) (ht : (tysE E)[t0]? = some (cA, ty)) {v : Int32} (hv : Int32.ofNat a.1 = v) (hdg : decode cc pc = .ok (.arraylength, 1))
    (kk : W p l e R s m args below meth c H locs cells slots Q (F0 m (pc + 1) ls (.int v :: rest))) : W p l e R s m args below meth c H locs cells slots Q (F0 m pc ls (.ref (E.1 i) :: rest)) := by
  exact va_alen (D := E.2.1) hf.1 hf.2.1 hw.2.1 hw.1 i t0 ((wsA_at E μ hi).trans (by rw [hc])) ht hv hdg kk
theorem p_a (hw : Wk E μ s H locs) (hf : CallFix p m c cc nL s args wsL_law own) {i : Nat} (hi : i < 232) {N : Nat} {f : Nat → Int32} (hc : cell E μ i = .inl (E.2.2 0, N, .inl f)) {x v : Int32} (hin : vp_in x N) {μ' : Mu} (hset : (wsA E μ).set i (E.1 i, .inl (E.2.2 0, N, .inl (upd f x.toNatClampNeg v))) = wsA E μ') (hdg : decode cc pc = .ok (.iastore, 1))
    (kk : ∀ (H : Heap) (locs : List Loc), Wk E μ' s H locs → W p l e R s m args below meth c H locs cells slots Q (F0 m (pc + 1) ls rest)) : W p l e R s m args below meth c H locs cells slots Q (F0 m pc ls (.int v :: .int x :: .ref (E.1 i) :: rest)) := by
  refine va_iast (D := E.2.1) hf.1 hf.2.1 hw.2.1 hw.1 hw.2.2.1 hw.2.2.2.1 i 0 ((wsA_at E μ hi).trans (by rw [hc])) rfl hin hdg (fun H1 locs1 h1 h2 h3 => kk H1 locs1 ⟨?_, hw.2.1, wsA_D _ hw.2.2.1, h3, hw.2.2.2.2⟩)
  rw [hset] at h1
  exact h1
theorem p_c (hw : Wk E μ s H locs) (hf : CallFix p m c cc nL s args wsL_law own) {i : Nat} (hi : i < 232) {N : Nat} {f : Nat → Int32} (hc : cell E μ i = .inl (E.2.2 1, N, .inl f)) {x v : Int32} (hv : vp_nar .char v = v) (hin : vp_in x N) {μ' : Mu} (hset : (wsA E μ).set i (E.1 i, .inl (E.2.2 1, N, .inl (upd f x.toNatClampNeg v))) = wsA E μ') (hdg : decode cc pc = .ok (.castore, 1))
    (kk : ∀ (H : Heap) (locs : List Loc), Wk E μ' s H locs → W p l e R s m args below meth c H locs cells slots Q (F0 m (pc + 1) ls rest)) : W p l e R s m args below meth c H locs cells slots Q (F0 m pc ls (.int v :: .int x :: .ref (E.1 i) :: rest)) := by
  refine va_cast (D := E.2.1) hf.1 hf.2.1 hw.2.1 hw.1 hw.2.2.1 hw.2.2.2.1 i 1 ((wsA_at E μ hi).trans (by rw [hc])) rfl hin hdg (fun H1 locs1 h1 h2 h3 => kk H1 locs1 ⟨?_, hw.2.1, wsA_D _ hw.2.2.1, h3, hw.2.2.2.2⟩)
  rw [hv, hset] at h1
  exact h1
end RW
/-! contracts: the answer and the memory behind, as one pair -/
abbrev MtI (l : Launch) (y : MethodName) (cc : ByteArray) (n : Nat) (ret : FieldType) (rm : Room) (av : List Value) (E : En) (μ : Mu) (RU : Int32 × Mu) : Prop := Met l y (wsM y cc n (some ret)) rm (va_Pc av (WdU E μ)) (va_Qi (fun r u => r = RU.1 ∧ u = RU.2) (fun u t => WdU E u t) (inE E)) 0 0 (inE E)
abbrev MtL (l : Launch) (y : MethodName) (cc : ByteArray) (n : Nat) (rm : Room) (av : List Value) (E : En) (μ : Mu) (RU : Int64 × Mu) : Prop := Met l y (wsM y cc n (some .long)) rm (va_Pc av (WdU E μ)) (va_Ql (fun r u => r = RU.1 ∧ u = RU.2) (fun u t => WdU E u t) (inE E)) 0 0 (inE E)
abbrev MtV (l : Launch) (y : MethodName) (cc : ByteArray) (n : Nat) (rm : Room) (av : List Value) (E : En) (μ : Mu) (U : Mu) : Prop := Met l y (wsM y cc n none) rm (va_Pc av (WdU E μ)) (va_Qv (fun u => u = U) (fun u t => WdU E u t) (inE E)) 0 0 (inE E)
abbrev MtQ (l : Launch) (y : MethodName) (cc : ByteArray) (n : Nat) (ret : FieldType) (rm : Room) (av : List Value) (E : En) (μ : Mu) (r0 : Option Nat) : Prop := Met l y (wsM y cc n (some ret)) rm (va_Pc av (WdU E μ)) (va_Qq (fun r u => r = r0.map E.1 ∧ u = μ) (fun u t => WdU E u t) (inE E)) 0 0 (inE E)
section ST
variable {l : Launch} {E : En} {μ : Mu}
/-- what a body's walk has at its entry -/
abbrev Body (l : Launch) (y : MethodName) (cc : ByteArray) (n : Nat) (ret : Option FieldType) (rm : Room) (av : List Value) (E : En) (μ : Mu) (Qc : Array Value → State → Outcome → State → Prop) : Prop :=
  ∀ (p : Program) (e : Env) (s : State) (m : MethodId) (args : Array Value) (below : List Frame) (meth : Method) (c : Code) (ls : Array Slot), CallFix p m c cc n s args wsL_law y.cls → meth.sig.returnType = ret → meth.locks = false → lv_has ls n (lv_args 0 av) → Wk E μ s s.heap [] →
    W p l e rm s m args below meth c s.heap [] 0 0 (MQ below Qc args s 0 0 (inE E)) (F0 m 0 ls [])
theorem mt_of {y : MethodName} {cc : ByteArray} {n : Nat} {ret : Option FieldType} {rm : Room} {av : List Value} {Qc : Array Value → State → Outcome → State → Prop} (hy : plainName y.cls = true) (hlen : ((lg_sl av).length ≤ n)) (body : Body l y cc n ret rm av E μ Qc) : Met l y (wsM y cc n ret) rm (va_Pc av (WdU E μ)) Qc 0 0 (inE E) := by
  refine Met.ofW (cc := cc) (maxL := n) (ret := ret) hy rfl ?_
  intro p e s m args below meth c s₁ B hml hv
  obtain ⟨rfl, hw⟩ := hv
  have hts := atoms_spec (ws := wsM y cc n ret) B.pre
  have hown : s.vm.findClass y.cls = some m.cls := findClass_of_methodNamed B.named
  have hl := lv_entry av (n := n) hlen
  rw [lg_entry_eq]
  exact body p e s m _ below meth c _ ⟨B.exec, B.bytes, hml, hown, fun w h => hts w (List.mem_cons_of_mem _ h)⟩ B.returns B.notSynchronized hl (WdU_Wk hw)
end ST
section EN
variable {p : Program} {l : Launch} {e : Env} {R : Room} {s : State} {m : MethodId} {args : Array Value} {below : List Frame} {meth : Method} {c : Code} {H : Heap} {locs : List Loc}
variable {cc : ByteArray} {pc nL : Nat} {ls : Array Slot} {E : En} {μ : Mu} {own : String}
theorem e_i (hf : CallFix p m c cc nL s args wsL_law own) {ty : FieldType} (hr : meth.sig.returnType = some ty) (hlocks : meth.locks = false) (hw : Wk E μ s H locs) {v : Int32} {RU : Int32 × Mu} (hn : narrow ty (.int v) = .int v) (h : RU = (v, μ)) (hdg : decode cc pc = .ok (.ireturn, 1)) : W p l e R s m args below meth c H locs 0 0 (MQ below (va_Qi (fun r u => r = RU.1 ∧ u = RU.2) (fun u t => WdU E u t) (inE E)) args s 0 0 (inE E)) (F0 m pc ls [.int v]) := by
  subst h
  exact W.zret (v := v) hf.1 hf.2.1 hr hn (fun t ht hW => ⟨⟨v, μ, rfl, ⟨rfl, rfl⟩, by rw [ht]; exact hw.1, va_K.moved hW.alike hw.2.1, hw.2.2.1, by rw [ht]; exact (hw.2.2.2.2.kept hw.2.2.2.1.2.1).moved hW.alike⟩, hw.2.2.2.1.F ht⟩) hw.2.2.2.1.2.2 hdg
theorem e_l (hf : CallFix p m c cc nL s args wsL_law own) (hr : meth.sig.returnType = some .long) (hlocks : meth.locks = false) (hw : Wk E μ s H locs) {v : Int64} {RU : Int64 × Mu} (h : RU = (v, μ)) (hdg : decode cc pc = .ok (.lreturn, 1)) : W p l e R s m args below meth c H locs 0 0 (MQ below (va_Ql (fun r u => r = RU.1 ∧ u = RU.2) (fun u t => WdU E u t) (inE E)) args s 0 0 (inE E)) (F0 m pc ls [.long v]) := by
  subst h
  exact W.lret (v := v) hf.1 hf.2.1 hr (fun t ht hW => ⟨⟨v, μ, rfl, ⟨rfl, rfl⟩, by rw [ht]; exact hw.1, va_K.moved hW.alike hw.2.1, hw.2.2.1, by rw [ht]; exact (hw.2.2.2.2.kept hw.2.2.2.1.2.1).moved hW.alike⟩, hw.2.2.2.1.F ht⟩) hw.2.2.2.1.2.2 hdg
theorem e_v (hf : CallFix p m c cc nL s args wsL_law own) (hr : meth.sig.returnType = none) (hlocks : meth.locks = false) (hw : Wk E μ s H locs) {U : Mu} (h : U = μ) (hdg : decode cc pc = .ok (.return_, 1)) : W p l e R s m args below meth c H locs 0 0 (MQ below (va_Qv (fun u => u = U) (fun u t => WdU E u t) (inE E)) args s 0 0 (inE E)) (F0 m pc ls []) := by
  subst h
  exact W.vret hf.1 hf.2.1 hr (fun t ht hW => ⟨⟨U, rfl, rfl, by rw [ht]; exact hw.1, va_K.moved hW.alike hw.2.1, hw.2.2.1, by rw [ht]; exact (hw.2.2.2.2.kept hw.2.2.2.1.2.1).moved hW.alike⟩, hw.2.2.2.1.F ht⟩) hw.2.2.2.1.2.2 hdg
theorem e_q (hf : CallFix p m c cc nL s args wsL_law own) {C : String} (hr : meth.sig.returnType = some (.object C)) (hlocks : meth.locks = false) (hw : Wk E μ s H locs) {v : Value} {o o' : Option Nat} {f : Nat → Nat} (ho : o = o') (h : v = va_rf ((o'.map f).map E.1)) (hdg : decode cc pc = .ok (.areturn, 1)) : W p l e R s m args below meth c H locs 0 0 (MQ below (va_Qq (fun r u => r = (o.map f).map E.1 ∧ u = μ) (fun u t => WdU E u t) (inE E)) args s 0 0 (inE E)) (F0 m pc ls [v]) := by
  subst ho
  subst h
  exact W.aret hf.1 hf.2.1 hr (Or.inl ⟨_, rfl⟩) (va_rf_or _) (fun t ht hW => ⟨⟨_, μ, rfl, ⟨rfl, rfl⟩, by rw [ht]; exact hw.1, va_K.moved hW.alike hw.2.1, hw.2.2.1, by rw [ht]; exact (hw.2.2.2.2.kept hw.2.2.2.1.2.1).moved hW.alike⟩, hw.2.2.2.1.F ht⟩) hw.2.2.2.1.2.2 hdg
end EN
section CA
variable {p : Program} {l : Launch} {e : Env} {R : Room} {s : State} {m : MethodId} {args : Array Value} {below : List Frame} {meth : Method} {c : Code} {H : Heap} {locs : List Loc} {cells slots : Nat} {Q : State → Prop}
variable {cc : ByteArray} {pc nL : Nat} {ls : Array Slot} {rest st0 : List Value} {E : En} {μ : Mu} {own : String}
theorem Wk_recv (hw : Wk E μ s H locs) {i : Nat} (hi : i < 232) {ci : Nat} {fs : List Value} (hc : cell E μ i = .inr (ci, fs)) {q : vw_C} (hcl : vwCl[ci]? = some q) : ∃ cell : Cell, H[E.1 i]? = some cell ∧ cell.vm.isStatics = false ∧ s.vm.findClass q.1 = some cell.cls := va_recv hw.2.1 hw.1 hcl ((wsA_at E μ hi).trans (by rw [hc]))
theorem Pc_blind {av : List Value} : FrameBlind (va_Pc av (WdU E μ)) := fun _ _ _ _ q => ⟨q.1, WdU_blind q.2⟩
/-- how a method is called: the words of the call, the receiver's cell -/
abbrev CwV (own : String) (index : Nat) (C : String) (y : MethodName) (cc : ByteArray) (n : Nat) (r : Option FieldType) (np : Nat) : Prop := GoodIn wsL_law (wsV own index C y (wsM y cc n r)) ∧ y.cls = C ∧ y.cls ≠ "java/lang/invoke/MethodHandle" ∧ y.cls ≠ "java/lang/invoke/VarHandle" ∧ (parseMethodDescriptor y.desc).map (fun d => d.parameters.length) = some np
abbrev CwS (own : String) (index : Nat) (y : MethodName) (cc : ByteArray) (n : Nat) (r : Option FieldType) (np : Nat) : Prop := GoodIn wsL_law (va_wsS own index y (wsM y cc n r)) ∧ y.cls ≠ "java/lang/invoke/MethodHandle" ∧ y.cls ≠ "java/lang/invoke/VarHandle" ∧ (parseMethodDescriptor y.desc).map (fun d => d.parameters.length) = some np
theorem run_V (hf : CallFix p m c cc nL s args wsL_law own) (hw : Wk E μ s H locs) {y : MethodName} {C : String} {index np n : Nat} {bytes : ByteArray} {ret : Option FieldType} {rm : Room} {As : List Value} {i : Nat} {Qc : Array Value → State → Outcome → State → Prop} (hM : Met l y (wsM y bytes n ret) rm (va_Pc (.ref (E.1 i) :: As) (WdU E μ)) Qc 0 0 (inE E)) (cw : CwV own index C y bytes n ret np) (hrm : rm.cells = 0 ∧ rm.slots = 0 ∧ rm.frames + 1 ≤ R.frames ∧ 8 + (n + 11) + rm.locals ≤ R.locals) (hi : i < 232) {ci : Nat} {fs : List Value} (hc : cell E μ i = .inr (ci, fs)) {T : u_T} {N : Nat} (hcl : vwCl[ci]? = some (C, T, N)) (hn : As.length = np) (hl : ls.size = nL) (hst : st0 = As.reverse ++ .ref (E.1 i) :: rest) (hW : (rest.map fun v => v.category).sum ≤ 8) (hdg : decode cc pc = .ok (.invokevirtual index, 3)) (hcap : cells ≤ R.cells ∧ slots ≤ R.slots) :
    va_Run p l e R s m args below meth c H locs cells slots 0 0 (F0 m pc ls st0) rest (Qc (Value.ref (E.1 i) :: As).toArray) (inE E) :=
  va_runV (C := C) hf hM (cwV np hf.2.2.2.2 cw.1 rfl hrm.1 hrm.2.1 cw.2 hrm.2.2) ⟨Pc_blind, Wk_recv hw hi hc hcl, fun U hU hW => ⟨rfl, Wk_U hw hU hW⟩⟩ rfl hn hl hst (lv_room hW) hdg hcap
theorem run_S (hf : CallFix p m c cc nL s args wsL_law own) (hw : Wk E μ s H locs) {y : MethodName} {index np n : Nat} {bytes : ByteArray} {ret : Option FieldType} {rm : Room} {As : List Value} {Qc : Array Value → State → Outcome → State → Prop} (hM : Met l y (wsM y bytes n ret) rm (va_Pc As (WdU E μ)) Qc 0 0 (inE E)) (cw : CwS own index y bytes n ret np) (hrm : rm.cells = 0 ∧ rm.slots = 0 ∧ rm.frames + 1 ≤ R.frames ∧ 8 + (n + 11) + rm.locals ≤ R.locals) (hn : As.length = np) (hl : ls.size = nL) (hst : st0 = As.reverse ++ rest) (hW : (rest.map fun v => v.category).sum ≤ 8) (hdg : decode cc pc = .ok (.invokestatic index, 3)) (hcap : cells ≤ R.cells ∧ slots ≤ R.slots) :
    va_Run p l e R s m args below meth c H locs cells slots 0 0 (F0 m pc ls st0) rest (Qc As.toArray) (inE E) :=
  va_runS hf hM (va_cwS np hf.2.2.2.2 cw.1 rfl hrm.1 hrm.2.1 cw.2 hrm.2.2) ⟨Pc_blind, fun U hU hW => ⟨rfl, Wk_U hw hU hW⟩⟩ rfl hn hl hst (lv_room hW) hdg hcap
theorem c_i {a : Array Value} {RU : Int32 × Mu} (hw : Wk E μ s H locs) (hr : va_Run p l e R s m args below meth c H locs cells slots 0 0 (F0 m pc ls st0) rest ((va_Qi (fun r u => r = RU.1 ∧ u = RU.2) (fun u t => WdU E u t) (inE E)) a) (inE E))
    (kk : ∀ (H : Heap) (locs : List Loc), Wk E RU.2 s H locs → W p l e R s m args below meth c H locs cells slots Q (F0 m (pc + 3) ls (.int RU.1 :: rest))) : W p l e R s m args below meth c H locs cells slots Q (F0 m pc ls st0) :=
  va_calli hr hw.2.2.2.1 (fun _ _ h => h) (fun _ h => h) (fun r u t H1 locs1 ht hvm hp hB _ _ hS => by obtain ⟨rfl, rfl⟩ := hp; exact kk H1 locs1 (Wk_back hw ht hB hS))
theorem c_l {a : Array Value} {RU : Int64 × Mu} (hw : Wk E μ s H locs) (hr : va_Run p l e R s m args below meth c H locs cells slots 0 0 (F0 m pc ls st0) rest ((va_Ql (fun r u => r = RU.1 ∧ u = RU.2) (fun u t => WdU E u t) (inE E)) a) (inE E))
    (kk : ∀ (H : Heap) (locs : List Loc), Wk E RU.2 s H locs → W p l e R s m args below meth c H locs cells slots Q (F0 m (pc + 3) ls (.long RU.1 :: rest))) : W p l e R s m args below meth c H locs cells slots Q (F0 m pc ls st0) :=
  va_calll hr hw.2.2.2.1 (fun _ _ h => h) (fun _ h => h) (fun r u t H1 locs1 ht hvm hp hB _ _ hS => by obtain ⟨rfl, rfl⟩ := hp; exact kk H1 locs1 (Wk_back hw ht hB hS))
theorem c_v {a : Array Value} {U : Mu} (hw : Wk E μ s H locs) (hr : va_Run p l e R s m args below meth c H locs cells slots 0 0 (F0 m pc ls st0) rest ((va_Qv (fun u => u = U) (fun u t => WdU E u t) (inE E)) a) (inE E))
    (kk : ∀ (H : Heap) (locs : List Loc), Wk E U s H locs → W p l e R s m args below meth c H locs cells slots Q (F0 m (pc + 3) ls rest)) : W p l e R s m args below meth c H locs cells slots Q (F0 m pc ls st0) :=
  va_callv hr hw.2.2.2.1 (fun _ _ h => h) (fun _ h => h) (fun u t H1 locs1 ht hvm hp hB _ _ hS => by subst hp; exact kk H1 locs1 (Wk_back hw ht hB hS))
theorem c_q {a : Array Value} {r0 : Option Nat} (hw : Wk E μ s H locs) (hr : va_Run p l e R s m args below meth c H locs cells slots 0 0 (F0 m pc ls st0) rest ((va_Qq (fun r u => r = r0.map E.1 ∧ u = μ) (fun u t => WdU E u t) (inE E)) a) (inE E))
    (kk : ∀ (H : Heap) (locs : List Loc), Wk E μ s H locs → W p l e R s m args below meth c H locs cells slots Q (F0 m (pc + 3) ls (va_rf (r0.map E.1) :: rest))) : W p l e R s m args below meth c H locs cells slots Q (F0 m pc ls st0) :=
  va_callq hr hw.2.2.2.1 (fun _ _ h => h) (fun _ h => h) (fun r u t H1 locs1 ht hvm hp hB _ _ hS => by obtain ⟨rfl, rfl⟩ := hp; exact kk H1 locs1 (Wk_back hw ht hB hS))
end CA
