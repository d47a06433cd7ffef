/-! The state of the class's object. -/
/-- its memory: relations in bounds, a flag, sets; and once fixed the group, four places, the whole -/
def cs_ok (z : zz_Z) (σ : hw_M) (S : Nat → Nat → Prop) : Prop :=
  st_ok z σ ∧ rl_ok z σ ∧ σ (0, 0) 6 < 2 ∧ (∀ j, j < 8 → ∃ q, es_ok z σ j q) ∧
    (σ (0, 0) 6 = 1 → lo_ok z σ 0 ∧ (∀ s, s < 4 → ∃ q b, sg_gp z (gr_p z σ) σ s q b ∧ ∀ x, x ∈ q ↔ S s x) ∧ ∃ q b, sg_gp z (gr_p z σ) σ 4 q b ∧ ∀ x, x ∈ q ↔ x < zz_N z)
/-- the reference's memory, the relations and the flag stay -/
def cs_q (σ σ1 : hw_M) : Prop := ∀ u : hw_P, u.1 < 12 ∨ 16 < u.1 → σ1 u = σ u
theorem cs_q.rf {σ : hw_M} : cs_q σ σ := fun _ _ => rfl
theorem cs_q.tr {σ σ1 σ2 : hw_M} (h : cs_q σ σ1) (h2 : cs_q σ1 σ2) : cs_q σ σ2 := fun u hu => (h2 u hu).trans (h u hu)
theorem sg_fr.cq {j : Nat} {σ σ1 : hw_M} (h : sg_fr j σ σ1) : cs_q σ σ1 := fun u hu => h u (Or.inr hu)
theorem es_fr.cq {j : Nat} {σ σ1 : hw_M} (h : es_fr j σ σ1) : cs_q σ σ1 := h.sg.cq
theorem cs_q.st {z : zz_Z} {σ σ1 : hw_M} (h : cs_q σ σ1) (hS : st_ok z σ) : st_ok z σ1 := by
  unfold st_ok
  rw [h (1, 0) (Or.inl (by decide)), h (2, 0) (Or.inl (by decide)), h (3, 0) (Or.inl (by decide))]
  exact hS
theorem cs_q.rl {z : zz_Z} {σ σ1 : hw_M} (h : cs_q σ σ1) (hS : rl_ok z σ) : rl_ok z σ1 := by
  refine ⟨fun i hi => ?_, fun i j h1 h2 => ?_⟩
  · rw [h (3, 0) (Or.inl (by decide)), h (4, 0) (Or.inl (by decide))]; exact hS.1 i hi
  · rw [h (3, 0) (Or.inl (by decide)), h (6, i) (Or.inl (by show (6 : Nat) < 12; decide))]; exact hS.2 i j h1 h2
theorem cs_q.lo {z : zz_Z} {σ σ1 : hw_M} (h : cs_q σ σ1) (hL : lo_ok z σ 0) : lo_ok z σ1 0 ∧ gr_p z σ1 = gr_p z σ := by
  have hK := lo_keep hL (σ1 := σ1) (fun u _ h1 _ _ => h u (Or.inl h1))
  exact ⟨hK.1, hK.2.1 _⟩
theorem cs_q.fx {σ σ1 : hw_M} (h : cs_q σ σ1) : σ1 (0, 0) = σ (0, 0) := h (0, 0) (Or.inl (by decide))
/-- the state behind a call that changed sets alone -/
theorem cs_set {z : zz_Z} {σ σ1 : hw_M} {S S' : Nat → Nat → Prop} (h : cs_ok z σ S) (hq : cs_q σ σ1) (he : ∀ j, j < 8 → ∃ q, es_ok z σ1 j q)
    (hp : σ (0, 0) 6 = 1 → (∀ s, s < 4 → ∃ q b, sg_gp z (gr_p z σ) σ1 s q b ∧ ∀ x, x ∈ q ↔ S' s x) ∧ ∃ q b, sg_gp z (gr_p z σ) σ1 4 q b ∧ ∀ x, x ∈ q ↔ x < zz_N z) : cs_ok z σ1 S' := by
  refine ⟨hq.st h.1, hq.rl h.2.1, by rw [hq.fx]; exact h.2.2.1, he, fun hf => ?_⟩
  rw [hq.fx] at hf
  have hL := hq.lo (h.2.2.2.2 hf).1
  rw [hL.2]
  exact ⟨hL.1, hp hf⟩
theorem sg_gpo {z : zz_Z} {o : Nat → Nat → Nat} {σ σ1 : hw_M} {i j : Nat} {q c : List Nat} (h : sg_gp z o σ j q c) (hf : sg_fr i σ σ1) (hij : j ≠ i) : sg_gp z o σ1 j q c := ⟨sg_oth h.1 hf hij, h.2⟩
theorem es_all {z : zz_Z} {σ σ1 : hw_M} {i : Nat} (h : ∀ j, j < 8 → ∃ q, es_ok z σ j q) (hf : sg_fr i σ σ1) (hi : ∃ q, es_ok z σ1 i q) : ∀ j, j < 8 → ∃ q, es_ok z σ1 j q := by
  intro j hj
  by_cases e : j = i
  · rw [e]; exact hi
  · obtain ⟨q, hq⟩ := h j hj
    exact ⟨q, es_oth hq hf e⟩
/-- one place is another set now -/
theorem cs_put {z : zz_Z} {σ σ1 : hw_M} {S : Nat → Nat → Prop} {P : Prop} {k : Nat} {T : Nat → Prop} {q b : List Nat} (h : cs_ok z σ S) (hf : σ (0, 0) 6 = 1) (hk : k < 4) (hfr : sg_fr k σ σ1) (hP : P) (hG : sg_gp z (gr_p z σ) σ1 k q b) (hT : ∀ x, x ∈ q ↔ T x) : cs_ok z σ1 (sa_t P k T S) := by
  refine cs_set h hfr.cq (es_all h.2.2.2.1 hfr ⟨q, hG.1.1⟩) (fun _ => ?_)
  obtain ⟨hL, hp, qw, bw, hw1, hw2⟩ := h.2.2.2.2 hf
  refine ⟨fun s hs => ?_, qw, bw, sg_gpo hw1 hfr (by omega), hw2⟩
  by_cases e : s = k
  · rw [e]
    exact ⟨q, b, hG, fun x => (hT x).trans (sa_in hP x).symm⟩
  · obtain ⟨q1, b1, h1, h2⟩ := hp s hs
    exact ⟨q1, b1, sg_gpo h1 hfr e, fun x => (h2 x).trans (sa_ot e x).symm⟩
theorem cs_no {z : zz_Z} {σ : hw_M} {S : Nat → Nat → Prop} {P : Prop} {k : Nat} {T : Nat → Prop} (h : cs_ok z σ S) (hP : ¬ P) : cs_ok z σ (sa_t P k T S) := by
  refine cs_set h cs_q.rf h.2.2.2.1 (fun hf => ?_)
  obtain ⟨hL, hp, hw⟩ := h.2.2.2.2 hf
  refine ⟨fun s hs => ?_, hw⟩
  obtain ⟨q1, b1, h1, h2⟩ := hp s hs
  exact ⟨q1, b1, h1, fun x => (h2 x).trans (sa_no hP x).symm⟩
theorem cs_cnt {z : zz_Z} {o : Nat → Nat → Nat} {σ : hw_M} {j : Nat} {q b : List Nat} {T : Nat → Prop} (h : sg_gp z o σ j q b) (hT : ∀ x, x ∈ q ↔ T x) : q.length = gp_cd (zz_N z) T := gp_cd_ls h.1.1.1 h.1.1.2.1 (fun x _ => hT x)
theorem cs_rel {z : zz_Z} {σ : hw_M} {S : Nat → Nat → Prop} (h : cs_ok z σ S) : cs_ok z (hw_up σ (0, 0) 6 0) S := by
  have e : ∀ k i, k ≠ 0 → hw_up σ (0, 0) 6 0 (k, i) = σ (k, i) := fun k i hk => hw_up_k _ _ _ (hw_ne hk)
  refine ⟨?_, ⟨fun i hi => ?_, fun i j h1 h2 => ?_⟩, by rw [hw_up_s]; decide, fun j hj => ?_, fun hf => by rw [hw_up_s] at hf; cases hf⟩
  · unfold st_ok
    rw [e 1 0 (by decide), e 2 0 (by decide), e 3 0 (by decide)]
    exact h.1
  · rw [e 3 0 (by decide), e 4 0 (by decide)]; exact h.2.1.1 i hi
  · rw [e 3 0 (by decide), e 6 i (by decide)]; exact h.2.1.2 i j h1 h2
  · obtain ⟨q, hq⟩ := h.2.2.2.1 j hj
    exact ⟨q, es_keep hq (e 13 j (by decide)) (e 14 j (by decide)) (e 15 j (by decide))⟩
