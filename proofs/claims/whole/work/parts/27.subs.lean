/-! Subgroups in memory: their members and a basis. -/
def sg_ok (z : zz_Z) (σ : hw_M) (j : Nat) (q c : List Nat) : Prop :=
  es_ok z σ j q ∧ σ (12, j) 3 = c.length ∧ c.length ≤ 7 ∧ (∀ k, k < c.length → σ (16, j) k = c.getD k 0) ∧ ∀ b, b ∈ c → b < zz_N z
/-- only subgroup j has changed -/
def sg_fr (j : Nat) (σ σ1 : hw_M) : Prop := ∀ u : hw_P, (u.2 ≠ j ∨ u.1 < 12 ∨ 16 < u.1) → σ1 u = σ u
theorem sg_fr.rf {j : Nat} {σ : hw_M} : sg_fr j σ σ := fun _ _ => rfl
theorem sg_fr.tr {j : Nat} {σ σ1 σ2 : hw_M} (h : sg_fr j σ σ1) (h2 : sg_fr j σ1 σ2) : sg_fr j σ σ2 := fun u hu => (h2 u hu).trans (h u hu)
theorem es_fr.sg {j : Nat} {σ σ1 : hw_M} (h : es_fr j σ σ1) : sg_fr j σ σ1 := fun u hu => h u
  (fun e => by rw [e] at hu; rcases hu with q | q | q <;> first | exact q rfl | exact absurd q (by show ¬ (13 : Nat) < 12; decide) | exact absurd q (by show ¬ 16 < (13 : Nat); decide))
  (fun e => by rw [e] at hu; rcases hu with q | q | q <;> first | exact q rfl | exact absurd q (by show ¬ (14 : Nat) < 12; decide) | exact absurd q (by show ¬ 16 < (14 : Nat); decide))
  (fun e => by rw [e] at hu; rcases hu with q | q | q <;> first | exact q rfl | exact absurd q (by show ¬ (15 : Nat) < 12; decide) | exact absurd q (by show ¬ 16 < (15 : Nat); decide))
theorem sg_fr.up12 {j i x : Nat} {σ : hw_M} : sg_fr j σ (hw_up σ (12, j) i x) := fun u hu => hw_up_k _ _ _
  (fun e => by rw [e] at hu; rcases hu with q | q | q <;> first | exact q rfl | exact absurd q (by show ¬ (12 : Nat) < 12; decide) | exact absurd q (by show ¬ 16 < (12 : Nat); decide))
theorem sg_fr.up16 {j i x : Nat} {σ : hw_M} : sg_fr j σ (hw_up σ (16, j) i x) := fun u hu => hw_up_k _ _ _
  (fun e => by rw [e] at hu; rcases hu with q | q | q <;> first | exact q rfl | exact absurd q (by show ¬ (16 : Nat) < 12; decide) | exact absurd q (by show ¬ 16 < (16 : Nat); decide))
/-- another subgroup stays as it is -/
theorem sg_oth {z : zz_Z} {σ σ1 : hw_M} {i j : Nat} {q c : List Nat} (h : sg_ok z σ j q c) (hf : sg_fr i σ σ1) (hij : j ≠ i) : sg_ok z σ1 j q c := by
  have e : ∀ k, σ1 (k, j) = σ (k, j) := fun k => hf (k, j) (Or.inl hij)
  refine ⟨es_keep h.1 (e 13) (e 14) (e 15), ?_, h.2.2.1, ?_, h.2.2.2.2⟩
  · rw [e]; exact h.2.1
  · rw [e]; exact h.2.2.2.1
theorem es_oth {z : zz_Z} {σ σ1 : hw_M} {i j : Nat} {q : List Nat} (h : es_ok z σ j q) (hf : sg_fr i σ σ1) (hij : j ≠ i) : es_ok z σ1 j q :=
  es_keep h (hf (13, j) (Or.inl hij)) (hf (14, j) (Or.inl hij)) (hf (15, j) (Or.inl hij))
theorem sg_es {z : zz_Z} {σ σ1 : hw_M} {j : Nat} {q q' c : List Nat} (h : sg_ok z σ j q c) (he : es_ok z σ1 j q') (hf : es_fr j σ σ1) : sg_ok z σ1 j q' c := by
  refine ⟨he, ?_, h.2.2.1, ?_, h.2.2.2.2⟩
  · rw [hf (12, j) (hw_ne (by decide)) (hw_ne (by decide)) (hw_ne (by decide))]; exact h.2.1
  · rw [hf (16, j) (hw_ne (by decide)) (hw_ne (by decide)) (hw_ne (by decide))]; exact h.2.2.2.1
theorem sg_push {z : zz_Z} {σ : hw_M} {j a : Nat} {q c : List Nat} (h : sg_ok z σ j q c) (hc : c.length < 7) (ha : a < zz_N z) : sg_ok z (hw_up (hw_up σ (16, j) c.length a) (12, j) 3 (c.length + 1)) j q (c ++ [a]) := by
  refine ⟨es_keep h.1 ?_ ?_ ?_, ?_, ?_, fun k hk => ?_, fun b hb => ?_⟩
  · rw [hw_up_k _ _ _ (hw_ne (by decide)), hw_up_k _ _ _ (hw_ne (by decide))]
  · rw [hw_up_k _ _ _ (hw_ne (by decide)), hw_up_k _ _ _ (hw_ne (by decide))]
  · rw [hw_up_k _ _ _ (hw_ne (by decide)), hw_up_k _ _ _ (hw_ne (by decide))]
  · rw [hw_up_s, List.length_append]; rfl
  · rw [List.length_append]; show c.length + 1 ≤ 7; omega
  · rw [hw_up_k _ _ _ (hw_ne (by decide)), hw_up_v]
    rw [List.length_append] at hk
    have hk : k < c.length + 1 := hk
    by_cases e : k = c.length
    · rw [if_pos e, e, List.getD_eq_getElem?_getD, List.getElem?_append_right (Nat.le_refl _), Nat.sub_self]
      rfl
    · have hk2 : k < c.length := by omega
      rw [if_neg e, h.2.2.2.1 k hk2, List.getD_eq_getElem?_getD, List.getD_eq_getElem?_getD, List.getElem?_append_left hk2]
  · rcases List.mem_append.mp hb with q | q
    · exact h.2.2.2.2 b q
    · rw [List.mem_singleton] at q; rw [q]; exact ha
/-- the row holds just what the basis generates, and each of the basis made it twice as long at least -/
def sg_gp (z : zz_Z) (o : Nat → Nat → Nat) (σ : hw_M) (j : Nat) (q c : List Nat) : Prop := sg_ok z σ j q c ∧ (∀ x, x ∈ q ↔ gp_gn (zz_N z) o (fun y => y ∈ c) x) ∧ 2 ^ c.length ≤ q.length
theorem sg_gp0 {z : zz_Z} {o : Nat → Nat → Nat} {σ : hw_M} {j : Nat} (g : gp_ok (zz_N z) o) (h : sg_ok z σ j [0] []) : sg_gp z o σ j [0] [] := by
  refine ⟨h, fun x => ⟨fun hx => ?_, fun hx => ?_⟩, Nat.le_refl _⟩
  · rw [List.mem_singleton] at hx; rw [hx]; exact fun S hS _ => hS.1
  · refine gp_gn.of (S := fun a => a ∈ [0]) g (fun x hx => absurd hx List.not_mem_nil) List.mem_cons_self (fun a b _ hb => absurd hb List.not_mem_nil) hx
theorem sg_lo {z : zz_Z} {σ σ1 : hw_M} {j : Nat} (h : lo_ok z σ 0) (hf : sg_fr j σ σ1) : lo_ok z σ1 0 ∧ gr_p z σ1 = gr_p z σ := by
  have hK := lo_keep h (σ1 := σ1) (fun u _ h1 _ _ => hf u (Or.inr (Or.inl h1)))
  exact ⟨hK.1, hK.2.1 _⟩
theorem sg_mono {z : zz_Z} {o : Nat → Nat → Nat} {σ σ1 : hw_M} {j : Nat} {q c q' c' : List Nat} (h : sg_gp z o σ j q c) (h' : sg_gp z o σ1 j q' c') (hc : ∀ b, b ∈ c → b ∈ c') : ∀ x, x ∈ q → x ∈ q' :=
  fun x hx => (h'.2.1 x).mpr (gp_gn.mono (fun y hy => hc y hy) ((h.2.1 x).mp hx))
theorem sg_basis {z : zz_Z} {o : Nat → Nat → Nat} {σ : hw_M} {j : Nat} {q c : List Nat} (h : sg_gp z o σ j q c) : ∀ b, b ∈ c → b ∈ q := fun b hb => (h.2.1 b).mpr (gp_gn.in hb)
/-- no room in the basis: everything is in -/
theorem sg_room {z : zz_Z} {o : Nat → Nat → Nat} {σ : hw_M} {j a : Nat} {q c : List Nat} (hN : zz_N z ≤ 128) (h : sg_gp z o σ j q c) (ha : a < zz_N z) (hn : a ∉ q) : c.length < 7 := by
  have h1 := ls_full h.1.1.1 h.1.1.2.1 ha hn
  have h2 := h.2.2
  apply Nat.lt_of_not_le
  intro h3
  have h4 : 2 ^ 7 ≤ 2 ^ c.length := Nat.pow_le_pow_right (by decide) h3
  have : 2 ^ 7 = 128 := rfl
  omega
/-- the end of the closing loop -/
theorem sg_end {z : zz_Z} {o : Nat → Nat → Nat} (g : gp_ok (zz_N z) o) {σ σ1 : hw_M} {j a k : Nat} {q c q' : List Nat} (h : sg_gp z o σ j q c) (ha : a ∉ q) (h' : sg_ok z σ1 j q' (c ++ [a])) (h0 : 0 ∈ q') (hg : ∀ x, x ∈ q' → gp_gn (zz_N z) o (fun y => y ∈ c ++ [a]) x) (hk : q'.length ≤ k) (hc : ∀ i, i < k → i < q'.length → ∀ b, b ∈ c ++ [a] → o (q'.getD i 0) b ∈ q') : sg_gp z o σ1 j q' (c ++ [a]) ∧ a ∈ q' := by
  have e := ls_closed g h'.2.2.2.2 h0 hg (fun i hi b hb => hc i (by omega) hi b hb)
  have hin : a ∈ c ++ [a] := List.mem_append_right _ (List.mem_singleton.mpr rfl)
  refine ⟨⟨h', e, ?_⟩, (e a).mpr (gp_gn.in hin)⟩
  have h2 := ls_twice g h.1.1.1 h.1.1.2.1 h'.1.1 h'.1.2.1 h.1.2.2.2.2 h'.2.2.2.2 h.2.1 e (fun b hb => List.mem_append_left _ hb) hin ha
  rw [List.length_append]
  show 2 ^ (c.length + 1) ≤ _
  rw [Nat.pow_succ]
  have := h.2.2
  omega
theorem ls_cl_add {q : List Nat} {k x : Nat} {o : Nat → Nat → Nat} {B : Nat → Prop} (h : ∀ i, i < k → i < q.length → ∀ b, B b → o (q.getD i 0) b ∈ q) (hk : k ≤ q.length) : ∀ i, i < k → i < (ls_add q x).length → ∀ b, B b → o ((ls_add q x).getD i 0) b ∈ ls_add q x := by
  intro i h1 _ b hb
  rw [ls_add_at (show i < q.length by omega)]
  exact ls_add_mem.mpr (Or.inl (h i h1 (by omega) b hb))
theorem sg_zero {z : zz_Z} {σ : hw_M} {j : Nat} (h : es_ok z σ j (ls_add [] 0)) : sg_ok z (hw_up σ (12, j) 3 0) j [0] [] := by
  have h : es_ok z σ j [0] := h
  refine ⟨es_keep h (hw_up_k _ _ _ (hw_ne (by decide))) (hw_up_k _ _ _ (hw_ne (by decide))) (hw_up_k _ _ _ (hw_ne (by decide))), hw_up_s _ _ _ _, Nat.zero_le _, fun k hk => absurd hk (Nat.not_lt_zero _), fun b hb => absurd hb List.not_mem_nil⟩
