/-! Counting once more: a set within another of no more elements is all of it; orders of elements. -/
theorem gp_cd_mono {N : Nat} {P Q : Nat → Prop} (h : ∀ x, x < N → P x → Q x) : gp_cd N P ≤ gp_cd N Q :=
  gp_ct_inj id (fun y hy q => ⟨hy, cb_p_t.mpr (h y hy (cb_p_t.mp q))⟩) (fun _ _ _ _ _ _ q => q)
theorem gp_cd_add {N : Nat} {P : Nat → Prop} {x : Nat} (hx : x < N) (hn : ¬ P x) : gp_cd N (fun y => P y ∨ y = x) = gp_cd N P + 1 := by
  refine gp_ct_add (x := x) (cb_p_f.mpr hn) (cb_p_t.mpr (Or.inr rfl)) (fun a ha => ?_) hx
  by_cases q : P a
  · rw [cb_p_t.mpr q, cb_p_t.mpr (Or.inl q)]
  · rw [cb_p_f.mpr q, cb_p_f.mpr (fun z => z.elim q ha)]
theorem gp_cd_eq {N : Nat} {P Q : Nat → Prop} (h : ∀ x, x < N → P x → Q x) (hc : gp_cd N Q ≤ gp_cd N P) : ∀ x, x < N → Q x → P x := by
  intro x hx hq
  apply Classical.byContradiction
  intro hn
  have h1 := gp_cd_add hx hn
  have h2 : gp_cd N (fun y => P y ∨ y = x) ≤ gp_cd N Q := gp_cd_mono (fun y hy q => q.elim (h y hy) (fun e => by rw [e]; exact hq))
  omega
theorem gp_cd_pos {N : Nat} {P : Nat → Prop} {x : Nat} (hx : x < N) (h : P x) : 0 < gp_cd N P := by
  have h1 : gp_cd N (fun _ => False) = 0 := gp_ct_none (fun a _ => cb_p_f.mpr (fun z => z))
  have h2 := gp_cd_add (N := N) (P := fun _ => False) hx (fun z => z)
  have h3 : gp_cd N (fun y => False ∨ y = x) ≤ gp_cd N P := gp_cd_mono (fun y hy q => q.elim False.elim (fun e => by rw [e]; exact h))
  omega
/-- counting by ones -/
theorem gp_cd_succ {P : Nat → Prop} (n : Nat) : (P n → gp_cd (n + 1) P = gp_cd n P + 1) ∧ (¬ P n → gp_cd (n + 1) P = gp_cd n P) := by
  constructor
  · intro h
    show gp_ct (cb_p P) n + _ = _
    rw [if_pos (cb_p_t.mpr h)]
    rfl
  · intro h
    show gp_ct (cb_p P) n + _ = _
    rw [cb_p_f.mpr h]
    rfl
theorem gp_cd_0 (P : Nat → Prop) : gp_cd 0 P = 0 := rfl
/-- k is the order of a -/
def gp_od (o : Nat → Nat → Nat) (a k : Nat) : Prop := 1 ≤ k ∧ gp_pw o a k = 0 ∧ ∀ j, 1 ≤ j → j < k → gp_pw o a j ≠ 0
theorem gp_od_u {o : Nat → Nat → Nat} {a k k' : Nat} (h : gp_od o a k) (h' : gp_od o a k') : k = k' := by
  apply Classical.byContradiction
  intro e
  rcases Nat.lt_or_ge k k' with q | q
  · exact h'.2.2 k h.1 q h.2.1
  · exact h.2.2 k' h'.1 (by omega) h'.2.1
theorem gp_od_le {N : Nat} {o : Nat → Nat → Nat} (g : gp_ok N o) {a k : Nat} (ha : a < N) (h : gp_od o a k) : k ≤ N := by
  obtain ⟨j, h1, h2, h3⟩ := g.per ha
  apply Nat.le_of_not_lt
  intro q
  exact h.2.2 j h1 (by omega) h3
theorem gp_pw1 {N : Nat} {o : Nat → Nat → Nat} (g : gp_ok N o) {a : Nat} (ha : a < N) : gp_pw o a 1 = a := g.l0 ha
