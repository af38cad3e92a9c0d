/-! ===== OhmBridge: the static tables; strain, set ===== -/
section ZR
variable {p : Program} {l : Launch} {e : Env} {R : Room} {s : State} {m : MethodId} {args : Array Value} {below : List Frame} {meth : Method} {c : Code} {H : Heap} {locs : List Loc} {cells slots : Nat} {Q : State → Prop}
variable {cc : ByteArray} {pc nL : Nat} {ls : Array Slot} {rest : List Value} {E : En} {μ : Mu} {own : String}
theorem g_z (hw : Wk E μ s H locs) (hf : CallFix p m c cc nL s args wsL_law own) {k N : Nat} {n : String} {zz : List Int32} {index : Nat} (hz : SZ E s s.heap → zS E k n N zz s s.heap) (hlink : Cond.fieldLink own index "OhmBridge" n "[I" ∈ wsL_law) (hdg : decode cc pc = .ok (.getstatic index, 3))
    (kk : W p l e R s m args below meth c H locs cells slots Q (F0 m (pc + 3) ls (.ref (E.1 k) :: rest))) : W p l e R s m args below meth c H locs cells slots Q (F0 m pc ls rest) :=
  va_gets hf.1 hf.2.1 (hz hw.2.2.2.2).1 hw.2.2.2.1 hf.2.2.2.1 (hf.2.2.2.2 _ hlink) (fun _ h => h) hdg kk
theorem g_zn (hw : Wk E μ s H locs) (hf : CallFix p m c cc nL s args wsL_law own) {k N : Nat} {n : String} {zz : List Int32} (hz : SZ E s s.heap → zS E k n N zz s s.heap) {v : Int32} (hv : Int32.ofNat N = v) (hdg : decode cc pc = .ok (.arraylength, 1))
    (kk : W p l e R s m args below meth c H locs cells slots Q (F0 m (pc + 1) ls (.int v :: rest))) : W p l e R s m args below meth c H locs cells slots Q (F0 m pc ls (.ref (E.1 k) :: rest)) :=
  va_tlen hf.1 hf.2.1 (hz hw.2.2.2.2).2 hw.2.2.2.1 hv hdg kk
theorem g_za (hw : Wk E μ s H locs) (hf : CallFix p m c cc nL s args wsL_law own) {k N : Nat} {n : String} {zz : List Int32} (hz : SZ E s s.heap → zS E k n N zz s s.heap) {x v : Int32} (hin : vp_in x N) (hv : zz.getD x.toNatClampNeg 0 = v) (hdg : decode cc pc = .ok (.iaload, 1))
    (kk : W p l e R s m args below meth c H locs cells slots Q (F0 m (pc + 1) ls (.int v :: rest))) : W p l e R s m args below meth c H locs cells slots Q (F0 m pc ls (.int x :: .ref (E.1 k) :: rest)) :=
  va_ti hf.1 hf.2.1 (hz hw.2.2.2.2).2 hw.2.2.2.1 hin (congrArg Value.int hv) hdg kk
end ZR
def sp_X7_isInRow   (v : Int32) (b : Int32) : Int32 :=
  if (b : Int32) < 0 then
    0
  else
    if (7 : Int32) ≤ b then
      0
    else
      if (7 : Int32) ≤ b then
        0
      else
        if (v : Int32) < zl0.getD b.toNatClampNeg 0 then
          0
        else
          if (zl1.getD b.toNatClampNeg 0 : Int32) < v then
            0
          else
            1
set_option maxHeartbeats 4000000 in
set_option maxRecDepth 100000 in
theorem k_X7_isInRow (l : Launch) (E : En) (μ : Mu)  (v : Int32) (b : Int32)  : MtI l yX7_isInRow cX7_isInRow 4 .boolean ({ frames := 0, cells := 0, slots := 0, locals := 0 }) [.int (v), .int (b), .ref (E.1 (240)), .ref (E.1 (241))] E μ ((sp_X7_isInRow  v b), μ) := by
  refine mt_of (by decide +kernel) (Nat.le_of_ble_eq_true rfl) ?_
  intro p e s m args below meth c ls hf hr hlocks hl hw
  have hx := hf.1
  have hb := hf.2.1
  have hl : lv_has ls 4 [(0, .int (v)), (1, .int (b)), (2, .ref (E.1 (240))), (3, .ref (E.1 (241)))] := hl
  refine lv_iload_n hx hb dX7_isInRow_0 rfl (lv_at hl 1 rfl) ?_
  refine lv_if_lt (tgt := 34) hx hb dX7_isInRow_1 (by decide) (fun c1 => ?_) (fun c1 => ?_)
  · refine lv_iconst (v := 0) hx hb dX7_isInRow_34 (by decide) ?_
    exact e_i hf hr hlocks hw rfl (congrArg (fun z => (z, μ)) ((if_pos c1).trans rfl)) dX7_isInRow_35
  · refine lv_iload_n hx hb dX7_isInRow_4 rfl (lv_at hl 1 rfl) ?_
    refine lv_aload_n hx hb dX7_isInRow_5 rfl (lv_at hl 2 rfl) ?_
    refine g_zn (v := 7) hw hf (fun z => z.1) rfl dX7_isInRow_6 ?_
    refine lv_icmp_ge (tgt := 34) hx hb dX7_isInRow_7 (by decide) (fun c2 => ?_) (fun c2 => ?_)
    · refine lv_iconst (v := 0) hx hb dX7_isInRow_34 (by decide) ?_
      exact e_i hf hr hlocks hw rfl (congrArg (fun z => (z, μ)) ((if_neg c1).trans ((if_pos c2).trans rfl))) dX7_isInRow_35
    · refine lv_iload_n hx hb dX7_isInRow_10 rfl (lv_at hl 1 rfl) ?_
      refine lv_aload_n hx hb dX7_isInRow_11 rfl (lv_at hl 3 rfl) ?_
      refine g_zn (v := 7) hw hf (fun z => z.2.1) rfl dX7_isInRow_12 ?_
      refine lv_icmp_ge (tgt := 34) hx hb dX7_isInRow_13 (by decide) (fun c3 => ?_) (fun c3 => ?_)
      · refine lv_iconst (v := 0) hx hb dX7_isInRow_34 (by decide) ?_
        exact e_i hf hr hlocks hw rfl (congrArg (fun z => (z, μ)) ((if_neg c1).trans ((if_neg c2).trans ((if_pos c3).trans rfl)))) dX7_isInRow_35
      · refine lv_iload_n hx hb dX7_isInRow_16 rfl (lv_at hl 0 rfl) ?_
        refine lv_aload_n hx hb dX7_isInRow_17 rfl (lv_at hl 2 rfl) ?_
        refine lv_iload_n hx hb dX7_isInRow_18 rfl (lv_at hl 1 rfl) ?_
        refine g_za hw hf (fun z => z.1) (vin 7 7 (by decide) (by decide) rfl c1 c3) rfl dX7_isInRow_19 ?_
        refine lv_icmp_lt (tgt := 34) hx hb dX7_isInRow_20 (by decide) (fun c4 => ?_) (fun c4 => ?_)
        · refine lv_iconst (v := 0) hx hb dX7_isInRow_34 (by decide) ?_
          exact e_i hf hr hlocks hw rfl (congrArg (fun z => (z, μ)) ((if_neg c1).trans ((if_neg c2).trans ((if_neg c3).trans ((if_pos c4).trans rfl))))) dX7_isInRow_35
        · refine lv_iload_n hx hb dX7_isInRow_23 rfl (lv_at hl 0 rfl) ?_
          refine lv_aload_n hx hb dX7_isInRow_24 rfl (lv_at hl 3 rfl) ?_
          refine lv_iload_n hx hb dX7_isInRow_25 rfl (lv_at hl 1 rfl) ?_
          refine g_za hw hf (fun z => z.2.1) (vin 7 7 (by decide) (by decide) rfl c1 c3) rfl dX7_isInRow_26 ?_
          refine lv_icmp_gt (tgt := 34) hx hb dX7_isInRow_27 (by decide) (fun c5 => ?_) (fun c5 => ?_)
          · refine lv_iconst (v := 0) hx hb dX7_isInRow_34 (by decide) ?_
            exact e_i hf hr hlocks hw rfl (congrArg (fun z => (z, μ)) ((if_neg c1).trans ((if_neg c2).trans ((if_neg c3).trans ((if_neg c4).trans ((if_pos c5).trans rfl)))))) dX7_isInRow_35
          · refine lv_iconst (v := 1) hx hb dX7_isInRow_30 (by decide) ?_
            refine lv_goto (tgt := 35) hx hb dX7_isInRow_31 (by decide) ?_
            exact e_i hf hr hlocks hw rfl (congrArg (fun z => (z, μ)) ((if_neg c1).trans ((if_neg c2).trans ((if_neg c3).trans ((if_neg c4).trans ((if_neg c5).trans rfl)))))) dX7_isInRow_35
def sp_X7_set (μ : Mu)  (a : Int32) (b : Int32) : Int32 × Mu :=
  if (sp_X7_isInRow   b a : Int32) = 0 then
    ((-2000000001), μ)
  else
    (sp_X4_setting ((sp_X0_record μ  ).1 0)  a, sp_X4_changeSetting (sp_X0_record μ  ) 0 a b)
set_option maxHeartbeats 4000000 in
set_option maxRecDepth 100000 in
theorem k_X7_set (l : Launch) (E : En) (μ : Mu)  (a : Int32) (b : Int32) (hK : KOk μ.2.2) : MtI l yX7_set cX7_set 4 .int ({ frames := 4, cells := 0, slots := 0, locals := 104 }) [.ref (E.1 (231)), .int (a), .int (b)] E μ (sp_X7_set μ a b) := by
  refine mt_of (by decide +kernel) (Nat.le_of_ble_eq_true rfl) ?_
  intro p e s m args below meth c ls hf hr hlocks hl hw
  have hx := hf.1
  have hb := hf.2.1
  have hl : lv_has ls 4 [(0, .ref (E.1 (231))), (1, .int (a)), (2, .int (b))] := hl
  refine lv_iload_n hx hb dX7_set_0 rfl (lv_at hl 2 rfl) ?_
  refine lv_iload_n hx hb dX7_set_1 rfl (lv_at hl 1 rfl) ?_
  refine g_z hw hf (fun z => z.1) q542 dX7_set_2 ?_
  refine g_z hw hf (fun z => z.2.1) q543 dX7_set_5 ?_
  refine c_iR hw (run_S (As := [.int (b), .int (a), .ref (E.1 (240)), .ref (E.1 (241))]) (rest := []) (np := 4) hf hw (k_X7_isInRow l E _  b a  ) ⟨gl_S q544 q545 q2 q546, by decide +kernel⟩ ⟨rfl, rfl, Nat.le_of_ble_eq_true rfl, Nat.le_of_ble_eq_true rfl⟩ rfl hl.1 rfl (Nat.le_of_ble_eq_true rfl) dX7_set_8 ⟨Nat.zero_le _, Nat.zero_le _⟩) (fun H locs hw => ?_)
  refine lv_if_ne (tgt := 17) hx hb dX7_set_11 (by decide) (fun c1 => ?_) (fun c1 => ?_)
  · refine lv_aload_n hx hb dX7_set_17 rfl (lv_at hl 0 rfl) ?_
    refine g_f hw hf (by decide) (c_O E _) rfl inlX7 2 (by decide) rfl q28 rfl dX7_set_18 ?_
    refine lv_aload_n hx hb dX7_set_21 rfl (lv_at hl 0 rfl) ?_
    refine g_f hw hf (by decide) (c_O E _) rfl inlX7 0 (by decide) rfl q23 rfl dX7_set_22 ?_
    refine c_v hw (run_V (As := [.ref (E.1 (iS 0))]) (rest := []) (np := 1) hf hw (k_X0_record l E _    hK) ⟨gl_V q392 q393 q394 q27 q395, by decide +kernel⟩ ⟨rfl, rfl, Nat.le_of_ble_eq_true rfl, Nat.le_of_ble_eq_true rfl⟩ (by decide) (c_Hi E _) rfl rfl hl.1 rfl (Nat.le_of_ble_eq_true rfl) dX7_set_25 ⟨Nat.zero_le _, Nat.zero_le _⟩) (fun H locs hw => ?_)
    refine lv_aload_n hx hb dX7_set_28 rfl (lv_at hl 0 rfl) ?_
    refine g_f hw hf (by decide) (c_O E _) rfl inlX7 0 (by decide) rfl q23 rfl dX7_set_29 ?_
    refine lv_iload_n hx hb dX7_set_32 rfl (lv_at hl 1 rfl) ?_
    refine c_iR hw (run_V (As := [.int (a)]) (rest := []) (np := 1) hf hw (k_X4_setting l E _ (by decide) a  ) ⟨gl_V q117 q118 q119 q22 q120, by decide +kernel⟩ ⟨rfl, rfl, Nat.le_of_ble_eq_true rfl, Nat.le_of_ble_eq_true rfl⟩ (lt_iS (by decide)) (c_iS E _ (by decide)) rfl rfl hl.1 rfl (Nat.le_of_ble_eq_true rfl) dX7_set_33 ⟨Nat.zero_le _, Nat.zero_le _⟩) (fun H locs hw => ?_)
    refine lv_istore_n (lv' := [(3, .int (sp_X4_setting ((sp_X0_record μ  ).1 0)  a)), (0, .ref (E.1 (231))), (1, .int (a)), (2, .int (b))]) hx hb dX7_set_36 rfl hl (by decide) rfl (fun ls hl => ?_)
    refine lv_aload_n hx hb dX7_set_37 rfl (lv_at hl 1 rfl) ?_
    refine g_f hw hf (by decide) (c_O E _) rfl inlX7 0 (by decide) rfl q23 rfl dX7_set_38 ?_
    refine lv_iload_n hx hb dX7_set_41 rfl (lv_at hl 2 rfl) ?_
    refine lv_iload_n hx hb dX7_set_42 rfl (lv_at hl 3 rfl) ?_
    refine c_v hw (run_V (As := [.int (a), .int (b)]) (rest := []) (np := 2) hf hw (k_X4_changeSetting l E _ (by decide) a b  ) ⟨gl_V q547 q548 q549 q22 q550, by decide +kernel⟩ ⟨rfl, rfl, Nat.le_of_ble_eq_true rfl, Nat.le_of_ble_eq_true rfl⟩ (lt_iS (by decide)) (c_iS E _ (by decide)) rfl rfl hl.1 rfl (Nat.le_of_ble_eq_true rfl) dX7_set_43 ⟨Nat.zero_le _, Nat.zero_le _⟩) (fun H locs hw => ?_)
    refine lv_iload_n hx hb dX7_set_46 rfl (lv_at hl 0 rfl) ?_
    exact e_i hf hr hlocks hw rfl ((if_neg c1).trans rfl) dX7_set_47
  · refine lv_ldc hx hb hf.2.2.2.1 (hf.2.2.2.2 _ q113) dX7_set_14 ?_
    exact e_i hf hr hlocks hw rfl ((if_pos c1).trans rfl) dX7_set_16
def sp_X7_isInRowS   (v : Int32) (b : Int32) : Int32 :=
  if (b : Int32) < 0 then
    0
  else
    if (3 : Int32) ≤ b then
      0
    else
      if (3 : Int32) ≤ b then
        0
      else
        if (v : Int32) < zl2.getD b.toNatClampNeg 0 then
          0
        else
          if (zl3.getD b.toNatClampNeg 0 : Int32) < v then
            0
          else
            1
set_option maxHeartbeats 4000000 in
set_option maxRecDepth 100000 in
theorem k_X7_isInRowS (l : Launch) (E : En) (μ : Mu)  (v : Int32) (b : Int32)  : MtI l yX7_isInRow cX7_isInRow 4 .boolean ({ frames := 0, cells := 0, slots := 0, locals := 0 }) [.int (v), .int (b), .ref (E.1 (242)), .ref (E.1 (243))] E μ ((sp_X7_isInRowS  v b), μ) := by
  refine mt_of (by decide +kernel) (Nat.le_of_ble_eq_true rfl) ?_
  intro p e s m args below meth c ls hf hr hlocks hl hw
  have hx := hf.1
  have hb := hf.2.1
  have hl : lv_has ls 4 [(0, .int (v)), (1, .int (b)), (2, .ref (E.1 (242))), (3, .ref (E.1 (243)))] := hl
  refine lv_iload_n hx hb dX7_isInRow_0 rfl (lv_at hl 1 rfl) ?_
  refine lv_if_lt (tgt := 34) hx hb dX7_isInRow_1 (by decide) (fun c1 => ?_) (fun c1 => ?_)
  · refine lv_iconst (v := 0) hx hb dX7_isInRow_34 (by decide) ?_
    exact e_i hf hr hlocks hw rfl (congrArg (fun z => (z, μ)) ((if_pos c1).trans rfl)) dX7_isInRow_35
  · refine lv_iload_n hx hb dX7_isInRow_4 rfl (lv_at hl 1 rfl) ?_
    refine lv_aload_n hx hb dX7_isInRow_5 rfl (lv_at hl 2 rfl) ?_
    refine g_zn (v := 3) hw hf (fun z => z.2.2.1) rfl dX7_isInRow_6 ?_
    refine lv_icmp_ge (tgt := 34) hx hb dX7_isInRow_7 (by decide) (fun c2 => ?_) (fun c2 => ?_)
    · refine lv_iconst (v := 0) hx hb dX7_isInRow_34 (by decide) ?_
      exact e_i hf hr hlocks hw rfl (congrArg (fun z => (z, μ)) ((if_neg c1).trans ((if_pos c2).trans rfl))) dX7_isInRow_35
    · refine lv_iload_n hx hb dX7_isInRow_10 rfl (lv_at hl 1 rfl) ?_
      refine lv_aload_n hx hb dX7_isInRow_11 rfl (lv_at hl 3 rfl) ?_
      refine g_zn (v := 3) hw hf (fun z => z.2.2.2.1) rfl dX7_isInRow_12 ?_
      refine lv_icmp_ge (tgt := 34) hx hb dX7_isInRow_13 (by decide) (fun c3 => ?_) (fun c3 => ?_)
      · refine lv_iconst (v := 0) hx hb dX7_isInRow_34 (by decide) ?_
        exact e_i hf hr hlocks hw rfl (congrArg (fun z => (z, μ)) ((if_neg c1).trans ((if_neg c2).trans ((if_pos c3).trans rfl)))) dX7_isInRow_35
      · refine lv_iload_n hx hb dX7_isInRow_16 rfl (lv_at hl 0 rfl) ?_
        refine lv_aload_n hx hb dX7_isInRow_17 rfl (lv_at hl 2 rfl) ?_
        refine lv_iload_n hx hb dX7_isInRow_18 rfl (lv_at hl 1 rfl) ?_
        refine g_za hw hf (fun z => z.2.2.1) (vin 3 3 (by decide) (by decide) rfl c1 c3) rfl dX7_isInRow_19 ?_
        refine lv_icmp_lt (tgt := 34) hx hb dX7_isInRow_20 (by decide) (fun c4 => ?_) (fun c4 => ?_)
        · refine lv_iconst (v := 0) hx hb dX7_isInRow_34 (by decide) ?_
          exact e_i hf hr hlocks hw rfl (congrArg (fun z => (z, μ)) ((if_neg c1).trans ((if_neg c2).trans ((if_neg c3).trans ((if_pos c4).trans rfl))))) dX7_isInRow_35
        · refine lv_iload_n hx hb dX7_isInRow_23 rfl (lv_at hl 0 rfl) ?_
          refine lv_aload_n hx hb dX7_isInRow_24 rfl (lv_at hl 3 rfl) ?_
          refine lv_iload_n hx hb dX7_isInRow_25 rfl (lv_at hl 1 rfl) ?_
          refine g_za hw hf (fun z => z.2.2.2.1) (vin 3 3 (by decide) (by decide) rfl c1 c3) rfl dX7_isInRow_26 ?_
          refine lv_icmp_gt (tgt := 34) hx hb dX7_isInRow_27 (by decide) (fun c5 => ?_) (fun c5 => ?_)
          · refine lv_iconst (v := 0) hx hb dX7_isInRow_34 (by decide) ?_
            exact e_i hf hr hlocks hw rfl (congrArg (fun z => (z, μ)) ((if_neg c1).trans ((if_neg c2).trans ((if_neg c3).trans ((if_neg c4).trans ((if_pos c5).trans rfl)))))) dX7_isInRow_35
          · refine lv_iconst (v := 1) hx hb dX7_isInRow_30 (by decide) ?_
            refine lv_goto (tgt := 35) hx hb dX7_isInRow_31 (by decide) ?_
            exact e_i hf hr hlocks hw rfl (congrArg (fun z => (z, μ)) ((if_neg c1).trans ((if_neg c2).trans ((if_neg c3).trans ((if_neg c4).trans ((if_neg c5).trans rfl)))))) dX7_isInRow_35
def sp_X7_strain (μ : Mu)  (a : Int32) (b : Int32) (w : Int32) : Int32 × Mu :=
  oc (sp_X4_sensorAt (μ.1 0)  a) (
    ((-2000000001), μ)) (fun t2 =>
    if (sp_X7_isInRowS   w b : Int32) = 0 then
      ((-2000000001), μ)
    else
      (sp_X3_strainOf ((sp_X0_record μ  ).1 0) t2 b, sp_X3_setStrain (sp_X0_record μ  ) 0 t2 b w))
set_option maxHeartbeats 4000000 in
set_option maxRecDepth 100000 in
theorem k_X7_strain (l : Launch) (E : En) (μ : Mu)  (a : Int32) (b : Int32) (w : Int32) (hK : KOk μ.2.2) : MtI l yX7_strain cX7_strain 6 .int ({ frames := 4, cells := 0, slots := 0, locals := 104 }) [.ref (E.1 (231)), .int (a), .int (b), .int (w)] E μ (sp_X7_strain μ a b w) := by
  refine mt_of (by decide +kernel) (Nat.le_of_ble_eq_true rfl) ?_
  intro p e s m args below meth c ls hf hr hlocks hl hw
  have hx := hf.1
  have hb := hf.2.1
  have hl : lv_has ls 6 [(0, .ref (E.1 (231))), (1, .int (a)), (2, .int (b)), (3, .int (w))] := hl
  refine lv_aload_n hx hb dX7_strain_0 rfl (lv_at hl 0 rfl) ?_
  refine g_f hw hf (by decide) (c_O E _) rfl inlX7 0 (by decide) rfl q23 rfl dX7_strain_1 ?_
  refine lv_iload_n hx hb dX7_strain_4 rfl (lv_at hl 1 rfl) ?_
  refine c_q hw (run_V (As := [.int (a)]) (rest := []) (np := 1) hf hw (k_X4_sensorAt l E _ (by decide) a  ) ⟨gl_V q220 q221 q222 q22 q223, by decide +kernel⟩ ⟨rfl, rfl, Nat.le_of_ble_eq_true rfl, Nat.le_of_ble_eq_true rfl⟩ (lt_iS (by decide)) (c_iS E _ (by decide)) rfl rfl hl.1 rfl (Nat.le_of_ble_eq_true rfl) dX7_strain_5 ⟨Nat.zero_le _, Nat.zero_le _⟩) (fun H locs hw => ?_)
  rcases o1 : sp_X4_sensorAt (μ.1 0)  a with _ | t2
  · refine W.eq (g2 := F0 m 8 ls [.null]) rfl ?_
    refine lv_astoreN (lv' := [(4, .null), (0, .ref (E.1 (231))), (1, .int (a)), (2, .int (b)), (3, .int (w))]) hx hb dX7_strain_8 hl (by decide) rfl (fun ls hl => ?_)
    refine lv_aloadN hx hb dX7_strain_10 (lv_at hl 0 rfl) ?_
    refine lv_ifnullN (tgt := 29) hx hb dX7_strain_12 (by decide) ?_
    refine lv_ldc hx hb hf.2.2.2.1 (hf.2.2.2.2 _ q113) dX7_strain_29 ?_
    exact e_i hf hr hlocks hw rfl ((oc_none o1).trans rfl) dX7_strain_31
  · have ht3 : t2 < 6 := (b_X4_sensorAt o1)
    refine W.eq (g2 := F0 m 8 ls [.ref (E.1 (iN 0 t2))]) rfl ?_
    refine lv_astore (lv' := [(4, .ref (E.1 (iN 0 t2))), (0, .ref (E.1 (231))), (1, .int (a)), (2, .int (b)), (3, .int (w))]) hx hb dX7_strain_8 hl (by decide) rfl (fun ls hl => ?_)
    refine lv_aload hx hb dX7_strain_10 (lv_at hl 0 rfl) ?_
    refine lv_ifnull hx hb dX7_strain_12 ?_
    refine lv_iload_n hx hb dX7_strain_15 rfl (lv_at hl 4 rfl) ?_
    refine lv_iload_n hx hb dX7_strain_16 rfl (lv_at hl 3 rfl) ?_
    refine g_z hw hf (fun z => z.2.2.1) q581 dX7_strain_17 ?_
    refine g_z hw hf (fun z => z.2.2.2.1) q582 dX7_strain_20 ?_
    refine c_iR hw (run_S (As := [.int (w), .int (b), .ref (E.1 (242)), .ref (E.1 (243))]) (rest := []) (np := 4) hf hw (k_X7_isInRowS l E _  w b  ) ⟨gl_S q544 q545 q2 q546, by decide +kernel⟩ ⟨rfl, rfl, Nat.le_of_ble_eq_true rfl, Nat.le_of_ble_eq_true rfl⟩ rfl hl.1 rfl (Nat.le_of_ble_eq_true rfl) dX7_strain_23 ⟨Nat.zero_le _, Nat.zero_le _⟩) (fun H locs hw => ?_)
    refine lv_if_ne (tgt := 32) hx hb dX7_strain_26 (by decide) (fun c4 => ?_) (fun c4 => ?_)
    · refine lv_aload_n hx hb dX7_strain_32 rfl (lv_at hl 1 rfl) ?_
      refine g_f hw hf (by decide) (c_O E _) rfl inlX7 2 (by decide) rfl q28 rfl dX7_strain_33 ?_
      refine lv_aload_n hx hb dX7_strain_36 rfl (lv_at hl 1 rfl) ?_
      refine g_f hw hf (by decide) (c_O E _) rfl inlX7 0 (by decide) rfl q23 rfl dX7_strain_37 ?_
      refine c_v hw (run_V (As := [.ref (E.1 (iS 0))]) (rest := []) (np := 1) hf hw (k_X0_record l E _    hK) ⟨gl_V q392 q393 q394 q27 q395, by decide +kernel⟩ ⟨rfl, rfl, Nat.le_of_ble_eq_true rfl, Nat.le_of_ble_eq_true rfl⟩ (by decide) (c_Hi E _) rfl rfl hl.1 rfl (Nat.le_of_ble_eq_true rfl) dX7_strain_40 ⟨Nat.zero_le _, Nat.zero_le _⟩) (fun H locs hw => ?_)
      refine lv_aload hx hb dX7_strain_43 (lv_at hl 0 rfl) ?_
      refine lv_iload_n hx hb dX7_strain_45 rfl (lv_at hl 3 rfl) ?_
      refine c_iR hw (run_V (As := [.int (b)]) (rest := []) (np := 1) hf hw (k_X3_strainOf l E _ (by decide) ht3 b  ) ⟨gl_V q233 q234 q235 q56 q236, by decide +kernel⟩ ⟨rfl, rfl, Nat.le_of_ble_eq_true rfl, Nat.le_of_ble_eq_true rfl⟩ (lt_iN (by decide) ht3) (c_iN E _ (by decide) ht3) rfl rfl hl.1 rfl (Nat.le_of_ble_eq_true rfl) dX7_strain_46 ⟨Nat.zero_le _, Nat.zero_le _⟩) (fun H locs hw => ?_)
      refine lv_istore (lv' := [(5, .int (sp_X3_strainOf ((sp_X0_record μ  ).1 0) t2 b)), (4, .ref (E.1 (iN 0 t2))), (0, .ref (E.1 (231))), (1, .int (a)), (2, .int (b)), (3, .int (w))]) hx hb dX7_strain_49 hl (by decide) rfl (fun ls hl => ?_)
      refine lv_aload hx hb dX7_strain_51 (lv_at hl 1 rfl) ?_
      refine lv_iload_n hx hb dX7_strain_53 rfl (lv_at hl 4 rfl) ?_
      refine lv_iload_n hx hb dX7_strain_54 rfl (lv_at hl 5 rfl) ?_
      refine c_v hw (run_V (As := [.int (b), .int (w)]) (rest := []) (np := 2) hf hw (k_X3_setStrain l E _ (by decide) ht3 b w  ) ⟨gl_V q583 q584 q585 q56 q586, by decide +kernel⟩ ⟨rfl, rfl, Nat.le_of_ble_eq_true rfl, Nat.le_of_ble_eq_true rfl⟩ (lt_iN (by decide) ht3) (c_iN E _ (by decide) ht3) rfl rfl hl.1 rfl (Nat.le_of_ble_eq_true rfl) dX7_strain_55 ⟨Nat.zero_le _, Nat.zero_le _⟩) (fun H locs hw => ?_)
      refine lv_iload hx hb dX7_strain_58 (lv_at hl 0 rfl) ?_
      exact e_i hf hr hlocks hw rfl ((oc_some o1).trans ((if_neg c4).trans rfl)) dX7_strain_60
    · refine lv_ldc hx hb hf.2.2.2.1 (hf.2.2.2.2 _ q113) dX7_strain_29 ?_
      exact e_i hf hr hlocks hw rfl ((oc_some o1).trans ((if_pos c4).trans rfl)) dX7_strain_31
