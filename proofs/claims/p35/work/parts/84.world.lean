theorem wsL_tbl : ∀ w ∈ wsL_law, w ∈ lw_tbl := List.forall_mem_append.mpr ⟨List.forall_mem_append.mpr ⟨List.forall_mem_append.mpr ⟨List.forall_mem_append.mpr ⟨List.forall_mem_append.mpr ⟨List.forall_mem_append.mpr ⟨List.forall_mem_append.mpr ⟨List.forall_mem_append.mpr ⟨List.forall_mem_append.mpr ⟨List.forall_mem_append.mpr ⟨tin_1, List.forall_mem_append.mpr ⟨tin_2, List.forall_mem_append.mpr ⟨tin_3, List.forall_mem_append.mpr ⟨tin_4, List.forall_mem_append.mpr ⟨tin_5, List.forall_mem_append.mpr ⟨tin_6, List.forall_mem_append.mpr ⟨tin_7, List.forall_mem_append.mpr ⟨tin_8, List.forall_mem_append.mpr ⟨tin_9, List.forall_mem_append.mpr ⟨tin_10, List.forall_mem_append.mpr ⟨tin_11, List.forall_mem_append.mpr ⟨tin_12, List.forall_mem_append.mpr ⟨tin_13, List.forall_mem_append.mpr ⟨tin_14, List.forall_mem_append.mpr ⟨tin_15, List.forall_mem_append.mpr ⟨tin_16, List.forall_mem_append.mpr ⟨tin_17, List.forall_mem_append.mpr ⟨tin_18, List.forall_mem_append.mpr ⟨tin_19, List.forall_mem_append.mpr ⟨tin_20, List.forall_mem_append.mpr ⟨tin_21, List.forall_mem_append.mpr ⟨tin_22, List.forall_mem_append.mpr ⟨tin_23, List.forall_mem_append.mpr ⟨tin_24, tin_25⟩⟩⟩⟩⟩⟩⟩⟩⟩⟩⟩⟩⟩⟩⟩⟩⟩⟩⟩⟩⟩⟩⟩⟩, tix_7⟩, tix_4⟩, tix_0⟩, tix_2⟩, tix_1⟩, tix_6⟩, tix_5⟩, tix_3⟩, fun _ h => absurd h List.not_mem_nil⟩
/-! ===== the world behind both constructors ===== -/
section EN0
variable {G : va_G} {dA : Nat → ClassId} {tz : Nat → Nat} {u : SO} {E' : En}
theorem en_0 : ∀ m, m < 37 → (En0 G dA tz u).1 (37 * 0 + m) = u.2.1 m := by
  intro m hm
  unfold En0
  dsimp only
  rw [if_pos (by omega)]
  exact congrArg u.2.1 (by omega)
theorem en_1 : ∀ m, m < 37 → (En0 G dA tz u).1 (37 * 1 + m) = u.2.2.1 m := by
  intro m hm
  unfold En0
  dsimp only
  rw [if_neg (by omega)]
  rw [if_pos (by omega)]
  exact congrArg u.2.2.1 (by omega)
theorem en_2 : ∀ m, m < 37 → (En0 G dA tz u).1 (37 * 2 + m) = u.2.2.2.1.2.2.1 m := by
  intro m hm
  unfold En0
  dsimp only
  rw [if_neg (by omega)]
  rw [if_neg (by omega)]
  rw [if_pos (by omega)]
  exact congrArg u.2.2.2.1.2.2.1 (by omega)
theorem en_3 : ∀ m, m < 37 → (En0 G dA tz u).1 (37 * 3 + m) = u.2.2.2.1.2.2.2.1 m := by
  intro m hm
  unfold En0
  dsimp only
  rw [if_neg (by omega)]
  rw [if_neg (by omega)]
  rw [if_neg (by omega)]
  rw [if_pos (by omega)]
  exact congrArg u.2.2.2.1.2.2.2.1 (by omega)
theorem en_4 : ∀ m, m < 37 → (En0 G dA tz u).1 (37 * 4 + m) = u.2.2.2.1.2.2.2.2.1 m := by
  intro m hm
  unfold En0
  dsimp only
  rw [if_neg (by omega)]
  rw [if_neg (by omega)]
  rw [if_neg (by omega)]
  rw [if_neg (by omega)]
  rw [if_pos (by omega)]
  exact congrArg u.2.2.2.1.2.2.2.2.1 (by omega)
theorem en_5 : ∀ m, m < 37 → (En0 G dA tz u).1 (37 * 5 + m) = u.2.2.2.1.2.2.2.2.2 m := by
  intro m hm
  unfold En0
  dsimp only
  rw [if_neg (by omega)]
  rw [if_neg (by omega)]
  rw [if_neg (by omega)]
  rw [if_neg (by omega)]
  rw [if_neg (by omega)]
  rw [if_pos (by omega)]
  exact congrArg u.2.2.2.1.2.2.2.2.2 (by omega)
theorem big_at (hE : (En0 G dA tz u).2 = E'.2) : ∀ i, i < 232 → (big E' u)[pl i]? = some ((En0 G dA tz u).1 i, cell (En0 G dA tz u) μ0 i) := by
  intro i hi
  by_cases c0 : i < 222
  · obtain ⟨m, hm, rfl⟩ | ⟨m, hm, rfl⟩ | ⟨m, hm, rfl⟩ | ⟨m, hm, rfl⟩ | ⟨m, hm, rfl⟩ | ⟨m, hm, rfl⟩ : (∃ m, m < 37 ∧ i = 37 * 0 + m) ∨ (∃ m, m < 37 ∧ i = 37 * 1 + m) ∨ (∃ m, m < 37 ∧ i = 37 * 2 + m) ∨ (∃ m, m < 37 ∧ i = 37 * 3 + m) ∨ (∃ m, m < 37 ∧ i = 37 * 4 + m) ∨ (∃ m, m < 37 ∧ i = 37 * 5 + m) := by
      rcases (show i / 37 = 0 ∨ i / 37 = 1 ∨ i / 37 = 2 ∨ i / 37 = 3 ∨ i / 37 = 4 ∨ i / 37 = 5 by omega) with h | h | h | h | h | h
      · exact Or.inl ⟨i % 37, by omega, by omega⟩
      · exact Or.inr (Or.inl ⟨i % 37, by omega, by omega⟩)
      · exact Or.inr (Or.inr (Or.inl ⟨i % 37, by omega, by omega⟩))
      · exact Or.inr (Or.inr (Or.inr (Or.inl ⟨i % 37, by omega, by omega⟩)))
      · exact Or.inr (Or.inr (Or.inr (Or.inr (Or.inl ⟨i % 37, by omega, by omega⟩))))
      · exact Or.inr (Or.inr (Or.inr (Or.inr (Or.inr (⟨i % 37, by omega, by omega⟩)))))
    · rw [show pl (37 * 0 + m) = 1 + m by unfold pl; rw [if_pos (by omega)]; omega]
      refine Eq.trans ?_ (stc hE (show 0 < 6 by decide) en_0 m hm)
      exact ob_at1 rfl hm
    · rw [show pl (37 * 1 + m) = 38 + m by unfold pl; rw [if_pos (by omega)]; omega]
      refine Eq.trans ?_ (stc hE (show 1 < 6 by decide) en_1 m hm)
      exact ob_at2 rfl hm
    · rw [show pl (37 * 2 + m) = 77 + m by unfold pl; rw [if_neg (by omega), if_pos (by omega)]; omega]
      refine Eq.trans ?_ (stc hE (show 2 < 6 by decide) en_2 m hm)
      exact (ob_at3 (m := 2 + m) (by omega) (by omega)).trans (hi_at1 _ rfl hm)
    · rw [show pl (37 * 3 + m) = 114 + m by unfold pl; rw [if_neg (by omega), if_pos (by omega)]; omega]
      refine Eq.trans ?_ (stc hE (show 3 < 6 by decide) en_3 m hm)
      exact (ob_at3 (m := 39 + m) (by omega) (by omega)).trans (hi_at2 _ rfl hm)
    · rw [show pl (37 * 4 + m) = 151 + m by unfold pl; rw [if_neg (by omega), if_pos (by omega)]; omega]
      refine Eq.trans ?_ (stc hE (show 4 < 6 by decide) en_4 m hm)
      exact (ob_at3 (m := 76 + m) (by omega) (by omega)).trans (hi_at3 _ rfl hm)
    · rw [show pl (37 * 5 + m) = 188 + m by unfold pl; rw [if_neg (by omega), if_pos (by omega)]; omega]
      refine Eq.trans ?_ (stc hE (show 5 < 6 by decide) en_5 m hm)
      exact (ob_at3 (m := 113 + m) (by omega) (by omega)).trans (hi_at4 _ rfl hm)
  · obtain rfl | rfl | rfl | rfl | rfl | rfl | rfl | rfl | rfl | rfl : i = 222 ∨ i = 223 ∨ i = 224 ∨ i = 225 ∨ i = 226 ∨ i = 227 ∨ i = 228 ∨ i = 229 ∨ i = 230 ∨ i = 231 := by omega
    · refine Eq.trans ((ob_at3 (m := 0) rfl (by decide)).trans (hi_at0 _ (m := 0) rfl (by decide))) ?_
      exact Eq.trans rfl (congrArg (fun z => some ((En0 G dA tz u).1 222, z)) (c_Hi (En0 G dA tz u) μ0).symm)
    · refine Eq.trans ((ob_at3 (m := 1) rfl (by decide)).trans (hi_at0 _ (m := 1) rfl (by decide))) ?_
      rw [c_Hk _ _, hE]
      refine congrArg (fun f => some (u.2.2.2.1.2.1, (Sum.inl (E'.2.2 4, 4, Sum.inr (Sum.inr (Sum.inr (Sum.inr f)))) : va_E))) ?_
      funext y
      match y with
      | 0 => rfl
      | 1 => rfl
      | 2 => rfl
      | 3 => rfl
      | y + 4 => rfl
    · refine Eq.trans (ob_at4 (m := 0) rfl (by decide)) ?_
      exact Eq.trans rfl (congrArg (fun z => some ((En0 G dA tz u).1 224, z)) (c_Me (En0 G dA tz u) μ0).symm)
    · refine Eq.trans (ob_at4 (m := 1) rfl (by decide)) ?_
      exact Eq.trans rfl (congrArg (fun z => some ((En0 G dA tz u).1 225, z)) (c_iM (r := 0) (En0 G dA tz u) μ0 (by decide)).symm)
    · refine Eq.trans (ob_at4 (m := 2) rfl (by decide)) ?_
      exact Eq.trans rfl (congrArg (fun z => some ((En0 G dA tz u).1 226, z)) (c_iM (r := 1) (En0 G dA tz u) μ0 (by decide)).symm)
    · refine Eq.trans (ob_at5 (m := 0) rfl (by decide)) ?_
      exact Eq.trans rfl (congrArg (fun z => some ((En0 G dA tz u).1 227, z)) (c_iM (r := 2) (En0 G dA tz u) μ0 (by decide)).symm)
    · refine Eq.trans (ob_at6 (m := 0) rfl (by decide)) ?_
      exact Eq.trans rfl (congrArg (fun z => some ((En0 G dA tz u).1 228, z)) (c_Tx (En0 G dA tz u) μ0).symm)
    · refine Eq.trans (ob_at6 (m := 1) rfl (by decide)) ?_
      rw [c_Tc _ _, trz (f := fun y => μ0.1 6 (8 + y)) (fun _ _ => rfl), hE]
      rfl
    · refine Eq.trans (ob_at7 (m := 0) rfl (by decide)) ?_
      rw [c_So _ _, trz (f := fun y => μ0.1 6 (68 + y)) (fun _ _ => rfl), hE]
      rfl
    · refine Eq.trans (ob_at0 (m := 0) rfl (by decide)) ?_
      exact Eq.trans rfl (congrArg (fun z => some ((En0 G dA tz u).1 231, z)) (c_O (En0 G dA tz u) μ0).symm)
end EN0
