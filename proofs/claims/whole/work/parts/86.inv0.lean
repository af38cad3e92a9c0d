/-! ===== the start's world in the order of the cells; what holds there ===== -/
section WD0
variable {G : va_G} {dA : Nat → ClassId} {tz : Nat → Nat} {u : SO} {r : SR} {E' : En}
theorem wd_g (hE : (En0 G dA tz u r).2 = E'.2) : ∀ (k : Nat) (q : Nat × va_E), (wsA (En0 G dA tz u r) μ0)[k]? = some q → (big E' u r)[pl k]? = some q := by
  intro k q hk
  have hl : k < 240 := by
    have := (List.getElem?_eq_some_iff.mp hk).1
    rwa [wsA_len] at this
  rw [wsA_at _ _ hl] at hk
  rw [← hk]
  exact big_at hE k hl
theorem wd_P (hE : (En0 G dA tz u r).2 = E'.2) {D : va_G} {H : Heap} (hP : va_P D vwCl (big E' u r) H) : va_P D vwCl (wsA (En0 G dA tz u r) μ0) H := hP.by pl (wd_g hE)
theorem wd_D (hE : (En0 G dA tz u r).2 = E'.2) {A : Nat → Prop} (hD : va_D A (big E' u r)) : va_D (inE (En0 G dA tz u r)) (wsA (En0 G dA tz u r) μ0) ∧ ∀ q, inE (En0 G dA tz u r) q → A q := by
  have h1 := hD.by pl (wd_g hE) (fun i j hi hj h => pl_ij (by rwa [wsA_len] at hi) (by rwa [wsA_len] at hj) h)
  refine ⟨⟨h1.1, fun k q hk => ?_⟩, fun q hq => ?_⟩
  · have hl : k < 240 := by
      have := (List.getElem?_eq_some_iff.mp hk).1
      rwa [wsA_len] at this
    rw [wsA_at _ _ hl] at hk
    cases hk
    exact ⟨k, hl, rfl⟩
  · obtain ⟨i, hi, rfl⟩ := hq
    exact h1.2 i _ (wsA_at _ _ hi)
end WD0
theorem sB_z {x : Nat} (h : x < 2 ∨ 10 ≤ x) : sB x = 0 := by
  unfold sB upd
  rw [if_neg (by omega), if_neg (by omega), if_neg (by omega), if_neg (by omega), if_neg (by omega), if_neg (by omega), if_neg (by omega), if_neg (by omega)]
theorem cS_0 : cS sB = 0 := rfl
theorem s_SmN {n : Nat} : SmN S0 sB n := by
  intro f hf h6
  rw [show 85 + 28 * n + f = sF n f from rfl, S0s (by omega) h6, sB_z (by omega)]
theorem s_SmL {n : Nat} : SmL 0 S0 sB n := ⟨0, Nat.le_refl _, by rw [show 85 + 28 * n + 11 = sF n 11 from rfl, S0s (by decide) (by decide)]; rfl, by rw [sB_z (by omega)]; rfl, fun i hi => absurd hi (by omega)⟩
theorem s_NoN {n : Nat} : NoN S0 n := ⟨fun f hf h6 => by rw [show 85 + 28 * n + f = sF n f from rfl, S0s (by omega) h6], S06⟩
theorem s_RI : RI sB := ⟨ni_z (by decide), ni_z (by decide), fun t ht => by rw [sB_z (by omega)]; exact ni_z (by decide), fun n hn => ⟨by rw [sB_z (by omega)]; exact ni_z (by decide), by rw [sB_z (by omega)]; exact ni_z (by decide), by rw [sB_z (by omega)]; exact ni_z (by decide)⟩⟩
theorem s_rN {t : Nat} : rN sB t = 0 := by
  unfold rN
  rw [sB_z (by omega)]
  rfl
theorem s_RG : RG sB := ⟨s_RI, fun t ht => ⟨⟨fun k hk => by rw [s_rN] at hk; omega, fun k hk => by rw [s_rN] at hk; omega⟩, ⟨fun k hk => by rw [s_rN] at hk; omega, fun k hk => by rw [s_rN] at hk; omega⟩⟩, by decide, by decide, by decide, by decide, by decide⟩
theorem z_bd : ¬ (0 : Int32) ≤ -2000000001 := by decide
theorem s_SimS : SimS 0 S0 sB := by
  refine ⟨⟨rfl, rfl, by decide +kernel, by decide +kernel⟩, Or.inl ⟨rfl, rfl⟩, fun n _ => ⟨s_SmN, s_SmL⟩, fun n hn => ?_, fun n _ _ => s_NoN, fun t _ _ => sB_z (by omega), ⟨s_RG, fun n hn => ?_⟩, ⟨rfl, by decide⟩, fun n n' hn => ?_, by decide +kernel, fun n _ => ⟨fun f hf => by rw [sB_z (by omega)]; exact z_bd, by rw [sB_z (by omega)]; exact ni_z (by decide), by rw [sB_z (by omega)]; exact ni_z (by decide)⟩⟩
  · rw [cS_0] at hn; omega
  · rw [cS_0] at hn; omega
  · rw [cS_0] at hn; omega
theorem inv_0 : Inv 0 μ0 := ⟨s_SimS, ⟨0, by decide, rfl, rfl, fun y hy => ⟨Nat.le_add_right 2 y, show 2 + y < 6 by omega⟩, fun x _ y _ h => Nat.add_left_cancel h, fun k hk => absurd hk (Nat.not_lt_zero k)⟩, ⟨⟨0, by decide, rfl, rfl⟩, fun _ _ => rfl, fun _ _ => ⟨Int.le_refl 0, show (0 : Int) < 65536 by decide⟩⟩⟩
