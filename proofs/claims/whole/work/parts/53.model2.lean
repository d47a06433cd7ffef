/-! The reference's state behind power, conjugate, release. -/
section
variable {z : zz_Z} {σ : hw_M} {r w p : Nat → Nat} {c : Nat → Nat → Nat} {S : Nat → Nat → Prop}
theorem ms_open {σ1 : hw_M} {r' w' p' : Nat → Nat} {c' : Nat → Nat → Nat} {S' : Nat → Nat → Prop} (h1 : md_ok z σ1) (h2 : mr_ok z σ1 r' w' p' c') (h3 : σ1 (20, 0) 6 = 0) : ms_ok z σ1 r' w' p' c' S' := ⟨h1, h2, by rw [h3]; decide, fun q => by rw [h3] at q; cases q⟩
theorem md_k {σ1 : hw_M} (h : md_ok z σ) (e : ∀ k, k = 20 ∨ k = 29 ∨ k = 30 ∨ k = 31 → σ1 (k, 0) = σ (k, 0)) : md_ok z σ1 := by
  unfold md_ok
  rw [e 20 (by decide), e 29 (by decide), e 30 (by decide), e 31 (by decide)]
  exact h
theorem ms_pow {j v : Nat} (h : ms_ok z σ r w p c S) (hf : σ (20, 0) 6 = 0) (hj : j < zz_n z) (hv : v < w j) (hw : w j < 2147483648) (hy : sp_pw (σ (20, 0) 6) (zz_n z) w (nI j) (nI v)) : ms_ok z (hw_up σ (23, 0) j v) r w (sp_pw1 (σ (20, 0) 6) (zz_n z) w p (nI j) (nI v)) c S := by
  have e : ∀ k, k ≠ 23 → hw_up σ (23, 0) j v (k, 0) = σ (k, 0) := fun k hk => hw_up_k _ _ _ (hw_ne hk)
  have e1 : el_v (nI j) = j := nI_clamp (show j < 2 ^ 31 by have := h.1.1; omega)
  have e2 : el_v (nI v) = v := nI_clamp (show v < 2 ^ 31 by omega)
  obtain ⟨h1, h2, h3, h4⟩ := h.2.1
  refine ms_open (md_k h.1 (fun k hk => e k (by omega))) ⟨h1, h2, fun i hi => ?_, fun i j9 h5 h6 => ?_⟩ (by rw [e 20 (by decide)]; exact hf)
  · rw [e 21 (by decide), e 22 (by decide), hw_up_v]
    obtain ⟨a1, a2, a3, a4⟩ := h3 i hi
    unfold sp_pw1
    rw [e1, e2]
    by_cases q : i = j
    · rw [if_pos q, cn_t ⟨hy, q⟩]; exact ⟨a1, a2, rfl, by rw [q]; exact hv⟩
    · rw [if_neg q, cn_f (fun z => q z.2)]; exact ⟨a1, a2, a3, a4⟩
  · rw [e 24 (by decide)]; exact h4 i j9 h5 h6
theorem ms_cgj {a j v : Nat} (h : ms_ok z σ r w p c S) (hf : σ (20, 0) 6 = 0) (haj : a < j) (hj : j < zz_n z) (hv : v < w a) (hw : w a < 2147483648) (hy : sp_cg (σ (20, 0) 6) (zz_n z) w (nI a) (nI j) (nI v)) : ms_ok z (hw_up σ (24, 0) (7 * a + j) v) r w p (sp_cg1 (σ (20, 0) 6) (zz_n z) w c (nI a) (nI j) (nI v)) S := by
  have hn := h.1.1
  have e : ∀ k, k ≠ 24 → hw_up σ (24, 0) (7 * a + j) v (k, 0) = σ (k, 0) := fun k hk => hw_up_k _ _ _ (hw_ne hk)
  have e0 : el_v (nI a) = a := nI_clamp (show a < 2 ^ 31 by omega)
  have e1 : el_v (nI j) = j := nI_clamp (show j < 2 ^ 31 by omega)
  have e2 : el_v (nI v) = v := nI_clamp (show v < 2 ^ 31 by omega)
  obtain ⟨h1, h2, h3, h4⟩ := h.2.1
  refine ms_open (md_k h.1 (fun k hk => e k (by omega))) ⟨h1, h2, fun i hi => ?_, fun i j9 h5 h6 => ?_⟩ (by rw [e 20 (by decide)]; exact hf)
  · rw [e 21 (by decide), e 22 (by decide), e 23 (by decide)]; exact h3 i hi
  · rw [hw_up_v]
    unfold sp_cg1
    rw [e0, e1, e2]
    by_cases q : i = a ∧ j9 = j
    · rw [if_pos (by omega), cn_t ⟨hy, q⟩]; exact ⟨rfl, by rw [q.1]; exact hv⟩
    · rw [if_neg (by omega), cn_f (fun z => q z.2)]; exact h4 i j9 h5 h6
theorem ms_rel (h : ms_ok z σ r w p c S) : ms_ok z (hw_up σ (20, 0) 6 0) r w p c S := by
  have e : ∀ k, k ≠ 20 → hw_up σ (20, 0) 6 0 (k, 0) = σ (k, 0) := fun k hk => hw_up_k _ _ _ (hw_ne hk)
  refine ms_open ⟨h.1.1, h.1.2.1, ?_, ?_, ?_, ?_, ?_⟩ (mr_keep h.2.1 (e 21 (by decide)) (e 22 (by decide)) (e 23 (by decide)) (e 24 (by decide))) (hw_up_s _ _ _ _)
  · rw [hw_up_i _ _ _ (by decide)]; exact h.1.2.2.1
  · rw [hw_up_i _ _ _ (by decide)]; exact h.1.2.2.2.1
  · rw [e 29 (by decide)]; exact h.1.2.2.2.2.1
  · rw [e 30 (by decide)]; exact h.1.2.2.2.2.2.1
  · rw [e 31 (by decide)]; exact h.1.2.2.2.2.2.2
end
