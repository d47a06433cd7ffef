/-! What the memory says: the numbers that never change, a row of members, a subgroup. -/
def st_ok (z : zz_Z) (σ : hw_M) : Prop := zz_n z ≤ 7 ∧ zz_N z ≤ 128 ∧ σ (1, 0) 0 = zz_n z ∧ σ (1, 0) 1 = zz_N z ∧ tw_w (zz_n z) (σ (2, 0)) (σ (3, 0)) ∧ zz_N z = tw_sz (zz_n z) (σ (2, 0)) (σ (3, 0)) (zz_n z) ∧ ∀ i, i < zz_n z → zz_l z i = σ (2, 0) i * σ (3, 0) i
/-- a set of elements: the row of its members -/
def es_ok (z : zz_Z) (σ : hw_M) (j : Nat) (s : List Nat) : Prop :=
  s.Nodup ∧ (∀ a, a ∈ s → a < zz_N z) ∧ σ (13, j) 2 = s.length ∧ (∀ i, i < s.length → σ (15, j) i = s.getD i 0) ∧ ∀ a, a < zz_N z → σ (14, j) a = if a ∈ s then 1 else 0
def es_fr (j : Nat) (σ σ' : hw_M) : Prop := ∀ k : hw_P, k ≠ (13, j) → k ≠ (14, j) → k ≠ (15, j) → σ' k = σ k
theorem es_len {z : zz_Z} {σ : hw_M} {j : Nat} {s : List Nat} (h : es_ok z σ j s) : s.length ≤ zz_N z := ls_le h.1 h.2.1
theorem es_mark {z : zz_Z} {σ : hw_M} {j a : Nat} {s : List Nat} (h : es_ok z σ j s) (ha : a < zz_N z) : (σ (14, j) a = 0 ↔ a ∉ s) ∧ σ (14, j) a < 2 := by
  have := h.2.2.2.2 a ha
  by_cases q : a ∈ s
  · rw [if_pos q] at this
    rw [this]
    exact ⟨⟨fun z => absurd z (by decide), fun z => absurd q z⟩, by decide⟩
  · rw [if_neg q] at this
    rw [this]
    exact ⟨⟨fun _ => q, fun _ => rfl⟩, by decide⟩
theorem es_at {z : zz_Z} {σ : hw_M} {j i : Nat} {s : List Nat} (h : es_ok z σ j s) (hi : i < s.length) : σ (15, j) i < zz_N z := by
  rw [h.2.2.2.1 i hi]
  exact h.2.1 _ (ls_at_mem hi)
theorem es_push {z : zz_Z} {σ : hw_M} {j a : Nat} {s : List Nat} (h : es_ok z σ j s) (ha : a < zz_N z) (hn : a ∉ s) :
    es_ok z (hw_up (hw_up (hw_up σ (14, j) a 1) (15, j) (σ (13, j) 2) a) (13, j) 2 (σ (13, j) 2 + 1)) j (ls_add s a) := by
  have e : ls_add s a = s ++ [a] := by unfold ls_add; rw [if_neg hn]
  have h13 : σ (13, j) 2 = s.length := h.2.2.1
  refine ⟨ls_add_nd h.1, fun x hx => ?_, ?_, fun i hi => ?_, fun x hx => ?_⟩
  · rcases ls_add_mem.mp hx with q | q
    · exact h.2.1 x q
    · rw [q]; exact ha
  · rw [hw_up_s, e, List.length_append, h13]
    rfl
  · rw [hw_up_k _ _ _ (by intro q; injection q with q1; omega)]
    rw [hw_up_v, h13]
    by_cases q : i = s.length
    · rw [if_pos q, q, e, List.getD_eq_getElem?_getD, List.getElem?_append_right (Nat.le_refl _), Nat.sub_self]
      rfl
    · rw [if_neg q, hw_up_k _ _ _ (by intro q; injection q with q1; omega)]
      have hi' : i < s.length := by
        rw [e, List.length_append] at hi
        have : [a].length = 1 := rfl
        omega
      rw [ls_add_at hi']
      exact h.2.2.2.1 i hi'
  · rw [hw_up_k _ _ _ (by intro q; injection q with q1; omega), hw_up_k _ _ _ (by intro q; injection q with q1; omega), hw_up_v]
    by_cases q : x = a
    · rw [if_pos q, if_pos (ls_add_mem.mpr (Or.inr q))]
    · rw [if_neg q, h.2.2.2.2 x hx]
      by_cases q2 : x ∈ s
      · rw [if_pos q2, if_pos (ls_add_mem.mpr (Or.inl q2))]
      · rw [if_neg q2, if_neg (fun z => (ls_add_mem.mp z).elim q2 q)]
theorem es_fr_push {σ : hw_M} {j a b x y v : Nat} : es_fr j σ (hw_up (hw_up (hw_up σ (14, j) a x) (15, j) b y) (13, j) 2 v) := by
  intro k h1 h2 h3
  rw [hw_up_k _ _ _ h1, hw_up_k _ _ _ h3, hw_up_k _ _ _ h2]
theorem es_fr.rf {j : Nat} {σ : hw_M} : es_fr j σ σ := fun _ _ _ _ => rfl
theorem es_fr.tr {j : Nat} {σ σ1 σ2 : hw_M} (h : es_fr j σ σ1) (h2 : es_fr j σ1 σ2) : es_fr j σ σ2 := fun k a b c => (h2 k a b c).trans (h k a b c)
theorem es_keep {z : zz_Z} {σ σ' : hw_M} {j : Nat} {s : List Nat} (h : es_ok z σ j s) (h1 : σ' (13, j) = σ (13, j)) (h2 : σ' (14, j) = σ (14, j)) (h3 : σ' (15, j) = σ (15, j)) : es_ok z σ' j s := by
  unfold es_ok
  rw [h1, h2, h3]
  exact h
theorem hw_ne {a b i j : Nat} (h : a ≠ b) : ((a, i) : hw_P) ≠ (b, j) := fun q => h (congrArg Prod.fst q)
theorem hw_ne2 {a b i j : Nat} (h : i ≠ j) : ((a, i) : hw_P) ≠ (b, j) := fun q => h (congrArg Prod.snd q)
theorem es_unm {σ1 : hw_M} {j k N : Nat} {q : List Nat} (hM : ∀ a, a < N → σ1 (14, j) a = 0 ∨ (a ∈ q ∧ ∀ i, i < k → q.getD i 0 ≠ a)) : ∀ a, a < N → hw_up σ1 (14, j) (q.getD k 0) 0 (14, j) a = 0 ∨ (a ∈ q ∧ ∀ i, i < k + 1 → q.getD i 0 ≠ a) := by
  intro a ha
  rw [hw_up_v]
  by_cases e : a = q.getD k 0
  · rw [if_pos e]; exact Or.inl rfl
  · rw [if_neg e]
    rcases hM a ha with h | ⟨h1, h2⟩
    · exact Or.inl h
    · refine Or.inr ⟨h1, fun i hi => ?_⟩
      by_cases e2 : i = k
      · rw [e2]; exact fun z => e z.symm
      · exact h2 i (by omega)
theorem es_unm0 {z : zz_Z} {σ : hw_M} {j : Nat} {q : List Nat} (hE : es_ok z σ j q) : ∀ a, a < zz_N z → σ (14, j) a = 0 ∨ (a ∈ q ∧ ∀ i, i < 0 → q.getD i 0 ≠ a) := by
  intro a ha
  by_cases h : a ∈ q
  · exact Or.inr ⟨h, fun i hi => absurd hi (Nat.not_lt_zero _)⟩
  · exact Or.inl ((es_mark hE ha).1.mpr h)
theorem es_none {z : zz_Z} {σ σ1 : hw_M} {j k : Nat} {q : List Nat} (hk : k = q.length) (hfr : ∀ u : hw_P, u ≠ (14, j) → σ1 u = σ u) (hM : ∀ a, a < zz_N z → σ1 (14, j) a = 0 ∨ (a ∈ q ∧ ∀ i, i < k → q.getD i 0 ≠ a)) :
    es_ok z (hw_up σ1 (13, j) 2 0) j [] ∧ es_fr j σ (hw_up σ1 (13, j) 2 0) := by
  refine ⟨⟨List.nodup_nil, fun a h => absurd h List.not_mem_nil, hw_up_s _ _ _ _, fun i h => absurd h (Nat.not_lt_zero _), fun a ha => ?_⟩, fun u h1 h2 h3 => (hw_up_k _ _ _ h1).trans (hfr u h2)⟩
  rw [hw_up_k _ _ _ (hw_ne (by decide)), if_neg List.not_mem_nil]
  rcases hM a ha with h | ⟨h1, h2⟩
  · exact h
  · obtain ⟨i, hi, e⟩ := ls_mem_at h1
    exact absurd e (h2 i (by omega))
