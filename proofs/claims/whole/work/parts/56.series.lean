theorem sp_sb {N : Nat} {o : Nat → Nat → Nat} (g : gp_ok N o) (w : Bool) : ∀ t, gp_sb N o (sp_ser N o w t)
  | 0 => gp_all g
  | t + 1 => sp_ser_sb g w _ (sp_sb g w t)
theorem sr_a {σ : hw_M} {a x : Nat} {y : Nat} : hw_up (hw_up σ (31, 0) a x) (30, 0) a y (30, 0) = hw_up σ (30, 0) a y (30, 0) := by
  funext j
  rw [hw_up_v, hw_up_v, hw_up_k _ _ _ (show ((30, 0) : hw_P) ≠ (31, 0) from hw_ne (by decide))]
