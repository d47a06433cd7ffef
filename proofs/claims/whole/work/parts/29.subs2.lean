/-! Copies of subgroups; what the commutators come to. -/
theorem ls_take {q : List Nat} {k : Nat} (h : q.Nodup) (hk : k < q.length) : ls_add (q.take k) (q.getD k 0) = q.take (k + 1) := by
  have e : q.getD k 0 = q[k] := by rw [List.getD_eq_getElem?_getD, List.getElem?_eq_getElem hk]; rfl
  have hn : q.getD k 0 ∉ q.take k := by
    intro hm
    obtain ⟨i, hi, e2⟩ := List.mem_iff_getElem.mp hm
    have hi2 : i < k := by rw [List.length_take] at hi; omega
    rw [List.getElem_take, e] at e2
    have := (List.getElem_inj h).mp e2
    omega
  unfold ls_add
  rw [if_neg hn, e]
  first | exact List.take_append_getElem hk | (rw [List.take_succ, List.getElem?_eq_getElem hk]; rfl) | simp
theorem sg_copy {z : zz_Z} {σ σ2 : hw_M} {j js : Nat} {qs bs0 : List Nat} (hE : es_ok z σ2 j qs) (hfr : es_fr j σ σ2) (hS : sg_ok z σ2 js qs bs0) (hne : js ≠ j) :
    sg_ok z (hw_up (hw_cp σ2 (16, js) (16, j) bs0.length) (12, j) 3 bs0.length) j qs bs0 ∧ sg_fr j σ (hw_up (hw_cp σ2 (16, js) (16, j) bs0.length) (12, j) 3 bs0.length) := by
  have e : ∀ k, k ≠ 12 → k ≠ 16 → hw_up (hw_cp σ2 (16, js) (16, j) bs0.length) (12, j) 3 bs0.length (k, j) = σ2 (k, j) := fun k h1 h2 => by
    rw [hw_up_k _ _ _ (hw_ne h1)]
    exact if_neg (hw_ne h2)
  refine ⟨⟨es_keep hE (e 13 (by decide) (by decide)) (e 14 (by decide) (by decide)) (e 15 (by decide) (by decide)), hw_up_s _ _ _ _, hS.2.2.1, fun k hk => ?_, hS.2.2.2.2⟩, fun u hu => ?_⟩
  · rw [hw_up_k _ _ _ (hw_ne (by decide))]
    have e2 : hw_cp σ2 (16, js) (16, j) bs0.length (16, j) = fun i => if i < bs0.length then σ2 (16, js) i else σ2 (16, j) i := if_pos rfl
    rw [e2]
    show (if k < bs0.length then _ else _) = _
    rw [if_pos hk]
    exact hS.2.2.2.1 k hk
  · have h1 : u ≠ (12, j) := fun q => by rw [q] at hu; rcases hu with h | h | h; exact h rfl; exact absurd h (by show ¬ (12 : Nat) < 12; decide); exact absurd h (by show ¬ 16 < (12 : Nat); decide)
    have h2 : u ≠ (16, j) := fun q => by rw [q] at hu; rcases hu with h | h | h; exact h rfl; exact absurd h (by show ¬ (16 : Nat) < 12; decide); exact absurd h (by show ¬ 16 < (16 : Nat); decide)
    rw [hw_up_k _ _ _ h1]
    exact (if_neg h2).trans (hfr.sg u hu)
theorem sg_cs {z : zz_Z} {o : Nat → Nat → Nat} (g : gp_ok (zz_N z) o) {σ σ1 : hw_M} {j js jt : Nat} {qs bs qt bt q1 c1 : List Nat} (hs : sg_ok z σ js qs bs) (ht : sg_ok z σ jt qt bt) (hG : sg_gp z o σ1 j q1 c1) (hcm : ∀ x y, x ∈ bs → y ∈ bt → gp_cm (zz_N z) o x y ∈ q1)
    (hin : ∀ t, t < c1.length → (∀ b, b ∈ bs → gp_cj (zz_N z) o (c1.getD t 0) b ∈ q1) ∧ ∀ b, b ∈ bt → gp_cj (zz_N z) o (c1.getD t 0) b ∈ q1)
    (hK : ∀ K : Nat → Prop, gp_sb (zz_N z) o K → (∀ x y, x ∈ bs → y ∈ bt → K (gp_cm (zz_N z) o x y)) → (∀ k b, K k → b ∈ bs → K (gp_cj (zz_N z) o k b)) → (∀ k b, K k → b ∈ bt → K (gp_cj (zz_N z) o k b)) → ∀ b, b ∈ c1 → K b) :
    ∀ x, x ∈ q1 ↔ gp_cs (zz_N z) o (gp_gn (zz_N z) o (fun y => y ∈ bs)) (gp_gn (zz_N z) o (fun y => y ∈ bt)) x := by
  intro x
  rw [hG.2.1 x]
  refine gp_comm g hs.2.2.2.2 ht.2.2.2.2 hG.1.2.2.2.2 (fun x y hx hy => (hG.2.1 _).mp (hcm x y hx hy)) (fun y b hy hb => ?_) (fun y b hy hb => ?_) hK x
  · obtain ⟨t, h1, h2⟩ := ls_mem_at hy
    rw [← h2]
    exact (hG.2.1 _).mp ((hin t h1).1 b hb)
  · obtain ⟨t, h1, h2⟩ := ls_mem_at hy
    rw [← h2]
    exact (hG.2.1 _).mp ((hin t h1).2 b hb)
