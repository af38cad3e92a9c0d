/-! ===== MAKING: rows for constructors; a world is a list that grows ===== -/
def NWs (U : State) : Prop := va_Nw (.methodLinkNest RX4 31 yX5_init "OhmBridge") U ∧ va_Nw (.methodLinkNest RX4 32 yX3_init "OhmBridge") U ∧ va_Nw (.methodLinkNest RX7 28 yX2_init "OhmBridge") U ∧ va_Nw (.methodLinkNest RX2 11 yX1_init "OhmBridge") U ∧ va_Nw (.methodLinkNest RX7 35 yX1_init "OhmBridge") U ∧ va_Nw (.methodLinkNest RX7 42 yX6_init "OhmBridge") U ∧ va_Nw (.fieldLinkNest RX4 33 "OhmBridge" "FIRST_SETTING" "[I" "OhmBridge") U
def AOs (U : State) : Prop := va_AO "OhmBridge$Table" U ∧ va_AO "OhmBridge$Sensor" U ∧ va_AO "OhmBridge$State" U
def FSt (t : Nat) (A : Nat → Prop) (U : State) (H : Heap) : Prop := va_Z "OhmBridge" "FIRST_SETTING" "[I" (.ref t) A U H ∧ va_T .int t 7 (zl zl4) A U H
def KU (E : En) (A : Nat → Prop) (U : State) (H : Heap) : Prop := va_K E.2.1 vwCl (tysE E) U ∧ NWs U ∧ AOs U ∧ FSt (E.1 244) A U H
theorem KU.warm {E : En} {A : Nat → Prop} {s U : State} {H : Heap} (hW : s.WarmedH U.vm) (h : KU E A s H) : KU E A U H := ⟨va_K.moved hW.alike h.1, ⟨va_Nw.warmM hW h.2.1.1, va_Nw.warmM hW h.2.1.2.1, va_Nw.warmM hW h.2.1.2.2.1, va_Nw.warmM hW h.2.1.2.2.2.1, va_Nw.warmM hW h.2.1.2.2.2.2.1, va_Nw.warmM hW h.2.1.2.2.2.2.2.1, va_Nw.warmF hW h.2.1.2.2.2.2.2.2⟩, ⟨va_AO.moved hW.alike h.2.2.1.1, va_AO.moved hW.alike h.2.2.1.2.1, va_AO.moved hW.alike h.2.2.1.2.2⟩, ⟨va_Z.moved hW.alike h.2.2.2.1, va_T.moved hW.alike h.2.2.2.2⟩⟩
theorem KU.blind {E : En} {A : Nat → Prop} {U : State} {H : Heap} {g : JFrame} {mk : MethodId} {a : Array Value} (h : KU E A U H) : KU E A (U.calling g mk a) H := ⟨va_K.moved (u := U) (U := U.calling g mk a) (Vm.Alike.refl U.vm) h.1, ⟨va_Nw.same rfl (u := U) (U := U.calling g mk a) rfl h.2.1.1, va_Nw.same rfl (u := U) (U := U.calling g mk a) rfl h.2.1.2.1, va_Nw.same rfl (u := U) (U := U.calling g mk a) rfl h.2.1.2.2.1, va_Nw.same rfl (u := U) (U := U.calling g mk a) rfl h.2.1.2.2.2.1, va_Nw.same rfl (u := U) (U := U.calling g mk a) rfl h.2.1.2.2.2.2.1, va_Nw.same rfl (u := U) (U := U.calling g mk a) rfl h.2.1.2.2.2.2.2.1, va_Nw.same rfl (u := U) (U := U.calling g mk a) rfl h.2.1.2.2.2.2.2.2⟩, ⟨va_AO.moved (u := U) (U := U.calling g mk a) (Vm.Alike.refl U.vm) h.2.2.1.1, va_AO.moved (u := U) (U := U.calling g mk a) (Vm.Alike.refl U.vm) h.2.2.1.2.1, va_AO.moved (u := U) (U := U.calling g mk a) (Vm.Alike.refl U.vm) h.2.2.1.2.2⟩, ⟨va_Z.moved (u := U) (U := U.calling g mk a) (Vm.Alike.refl U.vm) h.2.2.2.1, va_T.moved (u := U) (U := U.calling g mk a) (Vm.Alike.refl U.vm) h.2.2.2.2⟩⟩
theorem KU.kept {E : En} {A : Nat → Prop} {U : State} {H H1 : Heap} (h : KU E A U H) (hq : ∀ a : Nat, a < H.size → ¬ A a → H1[a]? = H[a]?) : KU E A U H1 := ⟨h.1, h.2.1, h.2.2.1, ⟨h.2.2.2.1.kept hq, h.2.2.2.2.kept hq⟩⟩
theorem KU.narrow {E : En} {A B : Nat → Prop} {U : State} {H : Heap} (h : KU E A U H) (hAB : ∀ q, B q → A q) : KU E B U H := ⟨h.1, h.2.1, h.2.2.1, ⟨h.2.2.2.1.narrow hAB, h.2.2.2.2.narrow hAB⟩⟩
def Nk (E : En) (A : Nat → Prop) (ws : va_W) (s : State) (H : Heap) (locs : List Loc) : Prop := va_P E.2.1 vwCl ws H ∧ va_D A ws ∧ va_S A s.heap H locs ∧ (∀ q, s.heap.size ≤ q → A q) ∧ KU E A s s.heap
/-- where a constructor begins: its object, bare -/
def CPre (E : En) (h0 sz ci : Nat) (fs : List Value) (U : State) : Prop := U.heap.size = sz ∧ va_P E.2.1 vwCl [(h0, .inr (ci, fs))] U.heap ∧ KU E (va_A [(h0, .inr (ci, fs))] sz) U U.heap
abbrev MtN {S : Type} (l : Launch) (y : MethodName) (cc : ByteArray) (n : Nat) (rm : Room) (E : En) (h0 sz ci : Nat) (fs : List Value) (a0 : S → Nat) (Wf : S → va_W) (mc ms : Nat) : Prop := Met l y (wsM y cc n none) rm (va_Pc [.ref h0] (CPre E h0 sz ci fs)) (va_Qv (fun e : S => a0 e = h0) (fun e t => va_P E.2.1 vwCl (Wf e) t.heap ∧ va_D (va_A [(h0, .inr (ci, fs))] sz) (Wf e)) (va_A [(h0, .inr (ci, fs))] sz)) mc ms (va_A [(h0, .inr (ci, fs))] sz)
theorem va_D1 {A : Nat → Prop} {q : Nat} {e : va_E} (h : A q) : va_D A [(q, e)] := by
  have key : ∀ (i : Nat) (x : Nat × va_E), ([(q, e)] : va_W)[i]? = some x → i = 0 ∧ x = (q, e) := by
    intro i x hx
    match i, hx with
    | 0, hx => cases hx; exact ⟨rfl, rfl⟩
    | i + 1, hx => simp at hx
  exact ⟨fun i j x y hx hy _ => by rw [(key i x hx).1, (key j y hy).1], fun k x hx => by rw [(key k x hx).2]; exact h⟩
theorem end_at {ws : va_W} {x : Nat × va_E} {i : Nat} {z : Nat × va_E} (h : [x][i]? = some z) : (ws ++ [x])[ws.length + i]? = some z := by
  rw [List.getElem?_append_right (by omega), show ws.length + i - ws.length = i by omega]
  exact h
theorem jl {A0 : Nat → Prop} {D : va_G} {cl : List vw_C} {X w1 : va_W} {x : Nat × va_E} {H H1 : Heap} (hP : va_P D cl (X ++ [x]) H) (hD : va_D A0 (X ++ [x])) (hk : ∀ q : Nat, q < H.size → ¬ va_A [x] H.size q → H1[q]? = H[q]?) (hF : ∀ q, va_A [x] H.size q → A0 q) (hP1 : va_P D cl w1 H1) (hD1 : va_D (va_A [x] H.size) w1) : va_P D cl (X ++ w1) H1 ∧ va_D A0 (X ++ w1) := by
  have inX : ∀ (k : Nat) (q : Nat × va_E), X[k]? = some q → (X ++ [x])[k]? = some q := fun k q hq => by
    rw [List.getElem?_append_left (List.getElem?_eq_some_iff.mp hq).1]
    exact hq
  have apart : ∀ (k : Nat) (q : Nat × va_E), X[k]? = some q → q.1 < H.size ∧ ¬ va_A [x] H.size q.1 := by
    intro k q hq
    have hl := (hP k q (inX k q hq)).lt
    refine ⟨hl, fun h => ?_⟩
    rcases h with ⟨k2, e, h⟩ | h
    · have := hD.1 k _ q (q.1, e) (inX k q hq) (end_at h) rfl
      have h3 := (List.getElem?_eq_some_iff.mp hq).1
      omega
    · omega
  refine ⟨va_P.app (fun k q hq => ?_) hP1, va_D.app (hD.by id inX (fun i j _ _ h => h)) (hD1.weaken (fun k q _ h => hF q.1 h)) (fun i j a b hx hy hxy => ?_)⟩
  · obtain ⟨g1, g2⟩ := apart k q hq
    exact (hP k q (inX k q hq)).kept (hk q.1 g1 g2)
  · exact (apart i a hx).2 (by rw [hxy]; exact hD1.2 j b hy)
section MK
variable {p : Program} {l : Launch} {e : Env} {R : Room} {s : State} {m : MethodId} {args : Array Value} {below : List Frame} {meth : Method} {c : Code} {H : Heap} {locs : List Loc} {cells slots : Nat} {Q : State → Prop}
variable {cc : ByteArray} {pc nL : Nat} {ls : Array Slot} {rest : List Value} {E : En} {A : Nat → Prop} {ws : va_W} {own : String}
theorem mtN_of {S : Type} {y : MethodName} {n : Nat} {rm : Room} {h0 sz ci mc ms : Nat} {fs : List Value} {a0 : S → Nat} {Wf : S → va_W} (hy : plainName y.cls = true) (hname : y.name = "<init>") (hlen : 1 ≤ n)
    (body : ∀ (p : Program) (e : Env) (s : State) (m : MethodId) (args : Array Value) (below : List Frame) (meth : Method) (c : Code) (ls : Array Slot) (A : Nat → Prop), CallFix p m c cc n s args wsL_law y.cls → meth.sig.returnType = none → meth.locks = false → meth.name = "<init>" → lv_has ls n [(0, .ref h0)] → Nk E A [(h0, .inr (ci, fs))] s s.heap [] →
      W p l e rm s m args below meth c s.heap [] 0 0 (MQ below (va_Qv (fun e : S => a0 e = h0) (fun e t => va_P E.2.1 vwCl (Wf e) t.heap ∧ va_D A (Wf e)) A) args s mc ms A) (F0 m 0 ls [])) : MtN l y cc n rm E h0 sz ci fs a0 Wf mc ms := by
  refine Met.ofW (cc := cc) (maxL := n) (ret := none) hy rfl ?_
  intro p e s m args below meth c s₁ B hml hv
  obtain ⟨rfl, hsz, hP, hK⟩ := hv
  have hts := atoms_spec (ws := wsM y cc n none) B.pre
  have hown : s.vm.findClass y.cls = some m.cls := findClass_of_methodNamed B.named
  have hl := lv_entry ([.ref h0]) (n := n) (show (lg_sl [.ref h0]).length ≤ n from hlen)
  rw [lg_entry_eq]
  have hin : meth.name = y.name := (name_of_methodNamed B.named B.method).1
  subst hsz
  exact body p e s m _ below meth c _ _ ⟨B.exec, B.bytes, hml, hown, fun w h => hts w (List.mem_cons_of_mem _ h)⟩ B.returns B.notSynchronized (hin.trans hname) hl ⟨hP, va_D1 (Or.inl ⟨0, _, rfl⟩), va_S.rf, fun q h => Or.inr h, hK⟩
theorem n_obj (hf : CallFix p m c cc nL s args wsL_law own) (hl : ls.size = nL) {a idx : Nat} (h1 : Cond.methodLink own idx objectInit ∈ wsL_law) (hR : 1 ≤ R.frames ∧ 12 ≤ R.locals) (hdg : decode cc pc = .ok (.invokespecial idx, 3)) (kk : W p l e R s m args below meth c H locs cells slots Q (F0 m (pc + 3) ls [])) : W p l e R s m args below meth c H locs cells slots Q (F0 m pc ls [.ref a]) := by
  obtain ⟨hx, hb, hml, hown, hts⟩ := hf
  exact W.objInit hx hb hown (hts _ h1) (hts _ q18) (hts _ q19) rfl (by rw [hml]; exact hl) rfl hdg hR.1 hR.2 kk
theorem n_new (hn : Nk E A ws s H locs) (hf : CallFix p m c cc nL s args wsL_law own) {ci : Nat} {C : String} {T : u_T} {N index : Nat} (hcl : vwCl[ci]? = some (C, T, N)) (hin : ∀ w ∈ u_ws C T N, w ∈ wsL_law) {ty : Nat → FieldType} (hty : ∀ k, k < N → parseFieldDescriptor (T k).2.2.1 = some (ty k)) (h1 : Cond.classLink own index C ∈ wsL_law) (h2 : Cond.instantiable C N ∈ wsL_law) (h3 : Cond.initialized C ∈ wsL_law) (fs : List Value) (hfs : ∀ j, j < N → defaultValue (ty j) = vp_V fs j) (hR : cells + 1 ≤ R.cells ∧ slots + N ≤ R.slots) (hdg : decode cc pc = .ok (.new index, 3))
    (kk : ∀ (q : Nat) (H : Heap), Nk E A (ws ++ [(q, .inr (ci, fs))]) s H locs → W p l e R s m args below meth c H locs (cells + 1) (slots + N) Q (F0 m (pc + 3) ls (.ref q :: rest))) : W p l e R s m args below meth c H locs cells slots Q (F0 m pc ls rest) := by
  obtain ⟨hx, hb, -, hown, hts⟩ := hf
  exact va_new hx hb hts hin ty hty hown (hts _ h1) (hts _ h2) (hts _ h3) hn.2.2.2.2.1 hn.1 hn.2.1 hn.2.2.1 hn.2.2.2.1 hcl hfs hR.1 hR.2 hdg (fun q H1 a b c1 => kk q H1 ⟨a, b, c1, hn.2.2.2⟩)
theorem ra_same {k : Nat} {cA cB : ClassId} {ty : FieldType} {s : State} (hK : va_K E.2.1 vwCl (tysE E ++ [(cA, ty)]) s) (hk : (tysE E)[k]? = some (cB, ty)) : cA = cB := by
  have h1 := (hK.2 5 (cA, ty) rfl).2
  have h2 := (hK.2 k (cB, ty) (by rw [List.getElem?_append_left (List.getElem?_eq_some_iff.mp hk).1]; exact hk)).2
  have e1 : ∀ (cA : ClassId), va_RA s cA ty → s.vm.findClass ("[" ++ ty.toString) = some cA := by
    intro cA h
    cases ty with
    | object C => obtain ⟨kA, comp, -, -, -, h4⟩ := h; exact h4
    | _ => exact h
  exact Option.some.inj ((e1 _ h1).symm.trans (e1 _ h2))
theorem n_ints (hn : Nk E A ws s H locs) (hf : CallFix p m c cc nL s args wsL_law own) {N : Nat} {v : Int32} (hv : v = nI N ∧ N < 100000) (hR : cells + 1 ≤ R.cells ∧ slots + N ≤ R.slots) (hdg : decode cc pc = .ok (.newarray .int, 2))
    (kk : ∀ (q : Nat) (H : Heap), Nk E A (ws ++ [(q, .inl (E.2.2 0, N, .inl (fun _ => 0)))]) s H locs → W p l e R s m args below meth c H locs (cells + 1) (slots + N) Q (F0 m (pc + 2) ls (.ref q :: rest))) : W p l e R s m args below meth c H locs cells slots Q (F0 m pc ls (.int v :: rest)) := by
  obtain ⟨hx, hb, -, hown, hts⟩ := hf
  obtain ⟨rfl, hN⟩ := hv
  refine va_newa (atype := .int) (a0 := (N, .inl (fun _ => 0))) hx hb (hts _ q41) rfl hn.2.2.2.2.1 hn.1 hn.2.1 hn.2.2.1 hn.2.2.2.1 (fun cA => rfl) (nI_pos (by omega)) (nI_clamp (by omega)) (show N * 4 ≤ 536870912 by omega) hR.1 hR.2 hdg (fun q cA H1 k a b c1 => ?_)
  have hc := ra_same (k := 0) k rfl
  subst hc
  exact kk q H1 ⟨a, b, c1, hn.2.2.2⟩
theorem n_chars (hn : Nk E A ws s H locs) (hf : CallFix p m c cc nL s args wsL_law own) {N : Nat} {v : Int32} (hv : v = nI N ∧ N < 100000) (hR : cells + 1 ≤ R.cells ∧ slots + N ≤ R.slots) (hdg : decode cc pc = .ok (.newarray .char, 2))
    (kk : ∀ (q : Nat) (H : Heap), Nk E A (ws ++ [(q, .inl (E.2.2 1, N, .inl (fun _ => 0)))]) s H locs → W p l e R s m args below meth c H locs (cells + 1) (slots + N) Q (F0 m (pc + 2) ls (.ref q :: rest))) : W p l e R s m args below meth c H locs cells slots Q (F0 m pc ls (.int v :: rest)) := by
  obtain ⟨hx, hb, -, hown, hts⟩ := hf
  obtain ⟨rfl, hN⟩ := hv
  refine va_newa (atype := .char) (a0 := (N, .inl (fun _ => 0))) hx hb (hts _ q92) rfl hn.2.2.2.2.1 hn.1 hn.2.1 hn.2.2.1 hn.2.2.2.1 (fun cA => rfl) (nI_pos (by omega)) (nI_clamp (by omega)) (show N * 2 ≤ 536870912 by omega) hR.1 hR.2 hdg (fun q cA H1 k a b c1 => ?_)
  have hc := ra_same (k := 1) k rfl
  subst hc
  exact kk q H1 ⟨a, b, c1, hn.2.2.2⟩
theorem n_refs (hn : Nk E A ws s H locs) (hf : CallFix p m c cc nL s args wsL_law own) {C : String} {t0 index : Nat} {cA : ClassId} (ht : (tysE E)[t0]? = some (cA, .object C)) (hcl : Cond.classLink own index C ∈ wsL_law) (hao : AOs s → va_AO C s) {N : Nat} {v : Int32} (hv : v = nI N ∧ N < 100000) (hR : cells + 1 ≤ R.cells ∧ slots + N ≤ R.slots) (hdg : decode cc pc = .ok (.anewarray index, 3))
    (kk : ∀ (q : Nat) (H : Heap), Nk E A (ws ++ [(q, .inl (cA, N, .inr (.inr (.inr (.inr (fun _ => none))))))]) s H locs → W p l e R s m args below meth c H locs (cells + 1) (slots + N) Q (F0 m (pc + 3) ls (.ref q :: rest))) : W p l e R s m args below meth c H locs cells slots Q (F0 m pc ls (.int v :: rest)) := by
  obtain ⟨hx, hb, -, hown, hts⟩ := hf
  obtain ⟨rfl, hN⟩ := hv
  refine va_newq hx hb hown (hts _ hcl) (hao hn.2.2.2.2.2.2.1) hn.2.2.2.2.1 hn.1 hn.2.1 hn.2.2.1 hn.2.2.2.1 (nI_pos (by omega)) (nI_clamp (by omega)) (show N * 4 ≤ 536870912 by omega) hR.1 hR.2 hdg (fun q cB H1 k a b c1 => ?_)
  have hc := ra_same (k := t0) k ht
  subst hc
  exact kk q H1 ⟨a, b, c1, hn.2.2.2⟩
theorem n_putF (hn : Nk E A ws s H locs) (hf : CallFix p m c cc nL s args wsL_law own) (hin2 : meth.name = "<init>") (q0 : Nat) {a ci : Nat} {fs : List Value} (he : ws[q0]? = some (a, .inr (ci, fs))) {C : String} {T : u_T} {N index : Nat} (hcl : vwCl[ci]? = some (C, T, N)) (hin : ∀ w ∈ u_ws C T N, w ∈ wsL_law) {ty0 : Nat → FieldType} (hty : ∀ k, k < N → parseFieldDescriptor (T k).2.2.1 = some (ty0 k)) (hnm : ∀ a, a < N → ∀ b, b < N → a ≠ b → (T a).2.1 ≠ (T b).2.1) (k : Nat) (hk : k < N) (hdecl : (T k).1 = own) {ref : String} (href : (T k).1 = ref) (hlink : Cond.fieldLink own index ref (T k).2.1 (T k).2.2.1 ∈ wsL_law) (hfin : (T k).2.2.2 = true) {v : Value} (hnar : narrow (ty0 k) v = v) (hfit : fits (ty0 k) v = true) (hl : k < fs.length) (hdg : decode cc pc = .ok (.putfield index, 3))
    (kk : ∀ (H : Heap) (locs : List Loc), Nk E A (ws.set q0 (a, .inr (ci, fs.set k v))) s H locs → W p l e R s m args below meth c H locs cells slots Q (F0 m (pc + 3) ls rest)) : W p l e R s m args below meth c H locs cells slots Q (F0 m pc ls (v :: .ref a :: rest)) := by
  obtain ⟨hx, hb, -, hown, hts⟩ := hf
  subst href
  exact va_putF hx hb hts hin ty0 hty hnm hown hn.2.2.2.2.1 hn.1 hn.2.1 hn.2.2.1 q0 he hcl k hk (hts _ hlink) (fun _ h => h) hfin hin2 hdecl (hty k hk) hnar hfit hl hdg (fun H1 locs1 a b c1 => kk H1 locs1 ⟨a, b, c1, hn.2.2.2⟩)
theorem n_putV (hn : Nk E A ws s H locs) (hf : CallFix p m c cc nL s args wsL_law own) (q0 : Nat) {a ci : Nat} {fs : List Value} (he : ws[q0]? = some (a, .inr (ci, fs))) {C : String} {T : u_T} {N index : Nat} (hcl : vwCl[ci]? = some (C, T, N)) (hin : ∀ w ∈ u_ws C T N, w ∈ wsL_law) {ty0 : Nat → FieldType} (hty : ∀ k, k < N → parseFieldDescriptor (T k).2.2.1 = some (ty0 k)) (hnm : ∀ a, a < N → ∀ b, b < N → a ≠ b → (T a).2.1 ≠ (T b).2.1) (k : Nat) (hk : k < N) {ref : String} (href : (T k).1 = ref) (hlink : Cond.fieldLink own index ref (T k).2.1 (T k).2.2.1 ∈ wsL_law) (hfin : (T k).2.2.2 = false) {v : Value} (hnar : narrow (ty0 k) v = v) (hfit : fits (ty0 k) v = true) (hl : k < fs.length) (hdg : decode cc pc = .ok (.putfield index, 3))
    (kk : ∀ (H : Heap) (locs : List Loc), Nk E A (ws.set q0 (a, .inr (ci, fs.set k v))) s H locs → W p l e R s m args below meth c H locs cells slots Q (F0 m (pc + 3) ls rest)) : W p l e R s m args below meth c H locs cells slots Q (F0 m pc ls (v :: .ref a :: rest)) := by
  obtain ⟨hx, hb, -, hown, hts⟩ := hf
  subst href
  exact va_put hx hb hts hin ty0 hty hnm hown hn.2.2.2.2.1 hn.1 hn.2.1 hn.2.2.1 q0 he hcl k hk (hts _ hlink) (fun _ h => h) hfin (hty k hk) hnar hfit hl hdg (fun H1 locs1 a b c1 => kk H1 locs1 ⟨a, b, c1, hn.2.2.2⟩)
theorem n_get (hn : Nk E A ws s H locs) (hf : CallFix p m c cc nL s args wsL_law own) (q0 : Nat) {a ci : Nat} {fs : List Value} (he : ws[q0]? = some (a, .inr (ci, fs))) {C : String} {T : u_T} {N index : Nat} (hcl : vwCl[ci]? = some (C, T, N)) (hin : ∀ w ∈ u_ws C T N, w ∈ wsL_law) (k : Nat) (hk : k < N) {ref : String} (href : (T k).1 = ref) (hlink : Cond.fieldLink own index ref (T k).2.1 (T k).2.2.1 ∈ wsL_law) {v : Value} (hv : fs[k]? = some v) (hdg : decode cc pc = .ok (.getfield index, 3))
    (kk : W p l e R s m args below meth c H locs cells slots Q (F0 m (pc + 3) ls (v :: rest))) : W p l e R s m args below meth c H locs cells slots Q (F0 m pc ls (.ref a :: rest)) := by
  obtain ⟨hx, hb, -, hown, hts⟩ := hf
  subst href
  exact va_get hx hb hts hin hown hn.2.2.2.2.1 hn.1 q0 he hcl k hk (hts _ hlink) (fun _ h => h) hv hdg kk
theorem n_astq (hn : Nk E A ws s H locs) (hf : CallFix p m c cc nL s args wsL_law own) (q0 qk : Nat) {t0 ci a v : Nat} {cA : ClassId} {r : vw_C} {n : Nat} {vs : List Value} {f : Nat → Option Nat} (ha : ws[q0]? = some (a, .inl (cA, n, .inr (.inr (.inr (.inr f)))))) (ht : (tysE E)[t0]? = some (cA, .object r.1)) (hv : ws[qk]? = some (v, .inr (ci, vs))) (hc : vwCl[ci]? = some r) {k : Nat} {i : Int32} (hi : i = nI k) (hk : k < n) (hn2 : n < 100000) (hdg : decode cc pc = .ok (.aastore, 1))
    (kk : ∀ (H : Heap) (locs : List Loc), Nk E A (ws.set q0 (a, .inl (cA, n, .inr (.inr (.inr (.inr (va_up f k (some v)))))))) s H locs → W p l e R s m args below meth c H locs cells slots Q (F0 m (pc + 1) ls rest)) : W p l e R s m args below meth c H locs cells slots Q (F0 m pc ls (.ref v :: .int i :: .ref a :: rest)) := by
  obtain ⟨hx, hb, -, hown, hts⟩ := hf
  subst hi
  refine va_astq hx hb hn.2.2.2.2.1 hn.1 hn.2.1 hn.2.2.1 q0 t0 qk ci ha ht hv hc (vp_in_nI hk (by omega)) hdg (fun H1 locs1 a b c1 => ?_)
  rw [nI_clamp (by omega)] at a b
  exact kk H1 locs1 ⟨a, b, c1, hn.2.2.2⟩
theorem n_ast (hn : Nk E A ws s H locs) (hf : CallFix p m c cc nL s args wsL_law own) (q0 : Nat) {a n : Nat} {f : Nat → Int32} (ha : ws[q0]? = some (a, .inl (E.2.2 0, n, .inl f))) {k : Nat} {i x : Int32} (hi : i = nI k) (hk : k < n) (hn2 : n < 100000) (hdg : decode cc pc = .ok (.iastore, 1))
    (kk : ∀ (H : Heap) (locs : List Loc), Nk E A (ws.set q0 (a, .inl (E.2.2 0, n, .inl (upd f k x)))) s H locs → W p l e R s m args below meth c H locs cells slots Q (F0 m (pc + 1) ls rest)) : W p l e R s m args below meth c H locs cells slots Q (F0 m pc ls (.int x :: .int i :: .ref a :: rest)) := by
  obtain ⟨hx, hb, -, hown, hts⟩ := hf
  subst hi
  refine va_iast hx hb hn.2.2.2.2.1 hn.1 hn.2.1 hn.2.2.1 q0 0 ha rfl (vp_in_nI hk (by omega)) hdg (fun H1 locs1 a b c1 => ?_)
  rw [nI_clamp (by omega)] at a b
  exact kk H1 locs1 ⟨a, b, c1, hn.2.2.2⟩
theorem n_pre {X : va_W} {q ci : Nat} {fs : List Value} (hn : Nk E A (X ++ [(q, .inr (ci, fs))]) s H locs) : va_P E.2.1 vwCl [(q, .inr (ci, fs))] H ∧ (∀ x, va_A [(q, .inr (ci, fs))] H.size x → A x) ∧ PreS s H (va_Pc [.ref q] (CPre E q H.size ci fs)) [.ref q] := by
  have hP : va_P E.2.1 vwCl [(q, .inr (ci, fs))] H := hn.1.by (fun k => X.length + k) (fun k x hx => end_at hx)
  have hA : ∀ x, va_A [(q, .inr (ci, fs))] H.size x → A x := by
    intro x h
    rcases h with ⟨k, z, h⟩ | h
    · exact hn.2.1.2 _ (x, z) (end_at h)
    · exact hn.2.2.2.1 x (Nat.le_trans hn.2.2.1.1 h)
  refine ⟨hP, hA, fun a U g mk z => ⟨z.1, z.2.1, z.2.2.1, z.2.2.2.blind⟩, fun U hU hW => ⟨rfl, by rw [hU], by rw [hU]; exact hP, ?_⟩⟩
  rw [hU]
  exact ((hn.2.2.2.2.kept hn.2.2.1.2.1).narrow hA).warm hW
theorem n_call {S : Type} {y : MethodName} {cd : ByteArray} {n mc ms index q ci : Nat} {rm : Room} {fs : List Value} {X : va_W} {a0 : S → Nat} {Wf : S → va_W} (hn : Nk E A (X ++ [(q, .inr (ci, fs))]) s H locs) (hf : CallFix p m c cc nL s args wsL_law own) (hM : MtN l y cd n rm E q H.size ci fs a0 Wf mc ms) (h1 : Cond.methodLink own index y ∈ wsL_law) (h2 : Cond.instanceMethod y ∈ wsL_law) (h3 : Cond.code y cd n none ∈ wsL_law) (h4 : Cond.initialized y.cls ∈ wsL_law) (hy : y.name = "<init>") (hd : y.cls ≠ "java/lang/invoke/MethodHandle" ∧ y.cls ≠ "java/lang/invoke/VarHandle" ∧ (parseMethodDescriptor y.desc).map (fun d => d.parameters.length) = some 0) (hrm : rm.cells = mc ∧ rm.slots = ms) (hR : rm.frames + 1 ≤ R.frames ∧ 8 + (n + 11) + rm.locals ≤ R.locals) (hl : ls.size = nL) (hrest : (rest.map fun v => v.category).sum ≤ 8) (hdg : decode cc pc = .ok (.invokespecial index, 3)) (hcs : cells + mc ≤ R.cells ∧ slots + ms ≤ R.slots)
    (kk : ∀ (u : S) (H : Heap) (locs : List Loc), a0 u = q → Nk E A (X ++ Wf u) s H locs → W p l e R s m args below meth c H locs (cells + mc) (slots + ms) Q (F0 m (pc + 3) ls rest)) : W p l e R s m args below meth c H locs cells slots Q (F0 m pc ls (.ref q :: rest)) := by
  obtain ⟨hP, hA, hpre⟩ := n_pre hn
  refine va_callv (va_runI (As := []) (rest := rest) hf hM (cwI 0 hf.2.2.2.2 (wsM_good h3) rfl hrm.1 hrm.2 (hf.2.2.2.2 _ h4) (hf.2.2.2.2 _ h1) (hf.2.2.2.2 _ h2) hy hd hR) hpre rfl rfl hl rfl (by show 2 * 0 + _ ≤ 8; omega) hdg hcs) hn.2.2.1 (fun q _ h => hA q h) hA (fun u t H1 locs1 ht hvm hw hB hz1 hk1 hS => ?_)
  rw [ht] at hB
  obtain ⟨x1, x2⟩ := jl hn.1 hn.2.1 hk1 hA hB.1 hB.2
  exact kk u H1 locs1 hw ⟨x1, x2, hS, hn.2.2.2⟩
theorem n_callN {S : Type} {y : MethodName} {cd : ByteArray} {n mc ms index q ci : Nat} {rm : Room} {fs : List Value} {X : va_W} {a0 : S → Nat} {Wf : S → va_W} (hn : Nk E A (X ++ [(q, .inr (ci, fs))]) s H locs) (hf : CallFix p m c cc nL s args wsL_law own) (hM : MtN l y cd n rm E q H.size ci fs a0 Wf mc ms) (h1 : NWs s → va_Nw (.methodLinkNest own index y "OhmBridge") s) (h2 : Cond.instanceMethod y ∈ wsL_law) (h3 : Cond.code y cd n none ∈ wsL_law) (h4 : Cond.initialized y.cls ∈ wsL_law) (hy : y.name = "<init>") (hd : y.cls ≠ "java/lang/invoke/MethodHandle" ∧ y.cls ≠ "java/lang/invoke/VarHandle" ∧ (parseMethodDescriptor y.desc).map (fun d => d.parameters.length) = some 0) (hrm : rm.cells = mc ∧ rm.slots = ms) (hR : rm.frames + 1 ≤ R.frames ∧ 8 + (n + 11) + rm.locals ≤ R.locals) (hl : ls.size = nL) (hrest : (rest.map fun v => v.category).sum ≤ 8) (hdg : decode cc pc = .ok (.invokespecial index, 3)) (hcs : cells + mc ≤ R.cells ∧ slots + ms ≤ R.slots)
    (kk : ∀ (u : S) (H : Heap) (locs : List Loc), a0 u = q → Nk E A (X ++ Wf u) s H locs → W p l e R s m args below meth c H locs (cells + mc) (slots + ms) Q (F0 m (pc + 3) ls rest)) : W p l e R s m args below meth c H locs cells slots Q (F0 m pc ls (.ref q :: rest)) := by
  obtain ⟨hP, hA, hpre⟩ := n_pre hn
  refine va_callv (va_runIN (As := []) (rest := rest) hf hM ⟨va_cnB 0 hf.2.2.2.2 (wsM_good h3) rfl hrm.1 hrm.2 (h1 hn.2.2.2.2.2.1) (hf.2.2.2.2 _ h4) hd hR, hy, hf.2.2.2.2 _ h2⟩ hpre rfl rfl hl rfl (by show 2 * 0 + _ ≤ 8; omega) hdg hcs) hn.2.2.1 (fun q _ h => hA q h) hA (fun u t H1 locs1 ht hvm hw hB hz1 hk1 hS => ?_)
  rw [ht] at hB
  obtain ⟨x1, x2⟩ := jl hn.1 hn.2.1 hk1 hA hB.1 hB.2
  exact kk u H1 locs1 hw ⟨x1, x2, hS, hn.2.2.2⟩
theorem n_ret {S : Type} {h0 : Nat} {a0 : S → Nat} {Wf : S → va_W} (hn : Nk E A ws s H locs) (hf : CallFix p m c cc nL s args wsL_law own) (hr : meth.sig.returnType = none) (hlocks : meth.locks = false) (u : S) (hu : a0 u = h0) (hW : ws = Wf u) (hdg : decode cc pc = .ok (.return_, 1)) : W p l e R s m args below meth c H locs cells slots (MQ below (va_Qv (fun e : S => a0 e = h0) (fun e t => va_P E.2.1 vwCl (Wf e) t.heap ∧ va_D A (Wf e)) A) args s cells slots A) (F0 m pc ls []) := by
  subst hW
  exact W.vret hf.1 hf.2.1 hr (fun t ht hW => ⟨⟨u, rfl, hu, by rw [ht]; exact hn.1, hn.2.1⟩, hn.2.2.1.F ht⟩) hn.2.2.1.2.2 hdg
end MK
