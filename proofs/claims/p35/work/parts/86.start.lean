/-! ===== the start's world in the order of the cells; what holds there ===== -/
section WD0
variable {G : va_G} {dA : Nat → ClassId} {tz : Nat → Nat} {u : SO} {E' : En}
theorem wd_g (hE : (En0 G dA tz u).2 = E'.2) : ∀ (k : Nat) (q : Nat × va_E), (wsA (En0 G dA tz u) μ0)[k]? = some q → (big E' u)[pl k]? = some q := by
  intro k q hk
  have hl : k < 232 := by
    have := (List.getElem?_eq_some_iff.mp hk).1
    rwa [wsA_len] at this
  rw [wsA_at _ _ hl] at hk
  rw [← hk]
  exact big_at hE k hl
theorem wd_P (hE : (En0 G dA tz u).2 = E'.2) {D : va_G} {H : Heap} (hP : va_P D vwCl (big E' u) H) : va_P D vwCl (wsA (En0 G dA tz u) μ0) H := hP.by pl (wd_g hE)
theorem wd_D (hE : (En0 G dA tz u).2 = E'.2) {A : Nat → Prop} (hD : va_D A (big E' u)) : va_D (inE (En0 G dA tz u)) (wsA (En0 G dA tz u) μ0) ∧ ∀ q, inE (En0 G dA tz u) q → A q := by
  have h1 := hD.by pl (wd_g hE) (fun i j hi hj h => pl_ij (by rwa [wsA_len] at hi) (by rwa [wsA_len] at hj) h)
  refine ⟨⟨h1.1, fun k q hk => ?_⟩, fun q hq => ?_⟩
  · have hl : k < 232 := by
      have := (List.getElem?_eq_some_iff.mp hk).1
      rwa [wsA_len] at this
    rw [wsA_at _ _ hl] at hk
    cases hk
    exact ⟨k, hl, rfl⟩
  · obtain ⟨i, hi, rfl⟩ := hq
    exact h1.2 i _ (wsA_at _ _ hi)
end WD0
