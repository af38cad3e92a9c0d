/-! ===== the reference: faults ===== -/
theorem rga_10 {m : Mu} {k : Nat} {v : Int32} (h : RGA m) : RGA (pM m 10 k v) := rga_pM (by decide) h
theorem ty_10 {m : Mu} {c k : Nat} {v : Int32} (hc : c ≠ 7) (h : ni 61 (m.1 7 1)) : ni 61 ((pM m c k v).1 7 1) := by rw [ty_up1 hc]; exact h
