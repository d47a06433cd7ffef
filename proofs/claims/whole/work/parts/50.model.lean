/-! The reference's memory. -/
def md_ok (z : zz_Z) (σ : hw_M) : Prop := zz_n z ≤ 7 ∧ zz_N z ≤ 128 ∧ σ (20, 0) 0 = zz_n z ∧ σ (20, 0) 1 = zz_N z ∧ (∀ a, σ (29, 0) a < 2) ∧ (∀ a, σ (30, 0) a < 2) ∧ ∀ a, σ (31, 0) a < 2
def mg_ok (z : zz_Z) (σ : hw_M) (o : Nat → Nat → Nat) : Prop := gp_ok (zz_N z) o ∧ (∀ a b, a < zz_N z → b < zz_N z → σ (25, 0) (128 * a + b) = o a b) ∧ ∀ a, a < zz_N z → σ (28, 0) a = gp_iv (zz_N z) o a
def mr_ok (z : zz_Z) (σ : hw_M) (r w p : Nat → Nat) (c : Nat → Nat → Nat) : Prop := tw_w (zz_n z) r w ∧ zz_N z = tw_sz (zz_n z) r w (zz_n z) ∧ (∀ i, i < zz_n z → σ (21, 0) i = r i ∧ σ (22, 0) i = w i ∧ σ (23, 0) i = p i ∧ p i < w i) ∧ ∀ i j, i < j → j < zz_n z → σ (24, 0) (7 * i + j) = c i j ∧ c i j < w i
def ms_ok (z : zz_Z) (σ : hw_M) (r w p : Nat → Nat) (c : Nat → Nat → Nat) (S : Nat → Nat → Prop) : Prop :=
  md_ok z σ ∧ mr_ok z σ r w p c ∧ σ (20, 0) 6 < 2 ∧ (σ (20, 0) 6 = 1 → tw_ok (zz_n z) r w p c (zz_n z) ∧ mg_ok z σ (tw_op (zz_n z) r w p c (zz_n z)) ∧ ∀ s, s < 4 → ∀ a, a < zz_N z → (σ (29, 0) (128 * s + a) = 1 ↔ S s a))
section
variable {z : zz_Z} {σ σ1 : hw_M} {r w p : Nat → Nat} {c : Nat → Nat → Nat} {S : Nat → Nat → Prop} {o : Nat → Nat → Nat}
theorem mg_keep (h : mg_ok z σ o) (e1 : σ1 (25, 0) = σ (25, 0)) (e2 : σ1 (28, 0) = σ (28, 0)) : mg_ok z σ1 o := by
  unfold mg_ok
  rw [e1, e2]
  exact h
theorem mr_keep (h : mr_ok z σ r w p c) (e1 : σ1 (21, 0) = σ (21, 0)) (e2 : σ1 (22, 0) = σ (22, 0)) (e3 : σ1 (23, 0) = σ (23, 0)) (e4 : σ1 (24, 0) = σ (24, 0)) : mr_ok z σ1 r w p c := by
  unfold mr_ok
  rw [e1, e2, e3, e4]
  exact h
/-- the class's memory, relations, table and flag stay -/
def mq_q (σ σ1 : hw_M) : Prop := ∀ u : hw_P, u ≠ (29, 0) → u ≠ (30, 0) → u ≠ (31, 0) → σ1 u = σ u
theorem mq_q.rf {σ : hw_M} : mq_q σ σ := fun _ _ _ _ => rfl
theorem mq_30 (h : ∀ u : hw_P, u ≠ (30, 0) → σ1 u = σ u) : mq_q σ σ1 := fun u _ h2 _ => h u h2
theorem mq_q.tr {σ σ1 σ2 : hw_M} (h : mq_q σ σ1) (h2 : mq_q σ1 σ2) : mq_q σ σ2 := fun u a b c => (h2 u a b c).trans (h u a b c)
theorem mq_at (h : mq_q σ σ1) {k : Nat} (hk : k ≠ 29 ∧ k ≠ 30 ∧ k ≠ 31) (i : Nat) : σ1 (k, i) = σ (k, i) := h (k, i) (hw_ne hk.1) (hw_ne hk.2.1) (hw_ne hk.2.2)
theorem mq_g (h : mq_q σ σ1) (hg : mg_ok z σ o) : mg_ok z σ1 o := mg_keep hg (mq_at h (by decide) 0) (mq_at h (by decide) 0)
theorem ms_set {S' : Nat → Nat → Prop} (h : ms_ok z σ r w p c S) (hq : mq_q σ σ1) (hb : (∀ a, σ1 (29, 0) a < 2) ∧ (∀ a, σ1 (30, 0) a < 2) ∧ ∀ a, σ1 (31, 0) a < 2) (hp : σ (20, 0) 6 = 1 → ∀ s, s < 4 → ∀ a, a < zz_N z → (σ1 (29, 0) (128 * s + a) = 1 ↔ S' s a)) : ms_ok z σ1 r w p c S' := by
  have e20 := mq_at hq (k := 20) (by decide) 0
  refine ⟨⟨h.1.1, h.1.2.1, by rw [e20]; exact h.1.2.2.1, by rw [e20]; exact h.1.2.2.2.1, hb⟩, mr_keep h.2.1 (mq_at hq (by decide) 0) (mq_at hq (by decide) 0) (mq_at hq (by decide) 0) (mq_at hq (by decide) 0), by rw [e20]; exact h.2.2.1, fun hf => ?_⟩
  rw [e20] at hf
  obtain ⟨h1, h2, h3⟩ := h.2.2.2 hf
  exact ⟨h1, mq_g hq h2, hp hf⟩
theorem ms_no {P : Prop} {k : Nat} {T : Nat → Prop} (h : ms_ok z σ r w p c S) (hP : ¬ P) : ms_ok z σ r w p c (sa_t P k T S) :=
  ms_set h mq_q.rf ⟨h.1.2.2.2.2.1, h.1.2.2.2.2.2.1, h.1.2.2.2.2.2.2⟩ (fun hf s hs a ha => ((h.2.2.2 hf).2.2 s hs a ha).trans (sa_no hP a).symm)
theorem ms_put {P : Prop} {k : Nat} {T : Nat → Prop} (h : ms_ok z σ r w p c S) (hf : σ (20, 0) 6 = 1) (hk : k < 4) (hP : P) (hq : mq_q σ σ1) (hb : (∀ a, σ1 (29, 0) a < 2) ∧ (∀ a, σ1 (30, 0) a < 2) ∧ ∀ a, σ1 (31, 0) a < 2) (hin : ∀ a, a < zz_N z → (σ1 (29, 0) (128 * k + a) = 1 ↔ T a)) (hout : ∀ i, ¬ (128 * k ≤ i ∧ i < 128 * k + zz_N z) → σ1 (29, 0) i = σ (29, 0) i) : ms_ok z σ1 r w p c (sa_t P k T S) := by
  have hN := h.1.2.1
  refine ms_set h hq hb (fun _ s hs a ha => ?_)
  by_cases e : s = k
  · rw [e]; exact (hin a ha).trans (sa_in hP a).symm
  · rw [hout _ (by omega)]
    exact ((h.2.2.2 hf).2.2 s hs a ha).trans (sa_ot e a).symm
/-- the end of the closing loop -/
theorem md_closed {X : Nat → Prop} {b9 : Nat} (g : gp_ok (zz_N z) o) (hX : ∀ x, X x → x < zz_N z) (hin : ∀ x, X x → σ1 (30, 0) x = 1) (h0 : σ1 (30, 0) 0 = 1) (hgn : ∀ x, x < zz_N z → σ1 (30, 0) x = 1 → gp_gn (zz_N z) o X x)
    (hp : b9 = 0 ∨ ∃ W : Nat → Prop, b9 = gp_cd (zz_N z) W ∧ (∀ x, x < zz_N z → W x → σ1 (30, 0) x = 1) ∧ ∀ a b, a < zz_N z → b < zz_N z → W a → W b → σ1 (30, 0) (o a b) = 1) (hle : gp_cd (zz_N z) (fun a => σ1 (30, 0) a = 1) ≤ b9) : ∀ a, a < zz_N z → (σ1 (30, 0) a = 1 ↔ gp_gn (zz_N z) o X a) := by
  rcases hp with h | ⟨W, h1, h2, h3⟩
  · have := gp_cd_pos (P := fun a => σ1 (30, 0) a = 1) g.pos h0
    omega
  · have h4 := gp_cd_eq h2 (by rw [← h1]; exact hle)
    have hsb : gp_sb (zz_N z) o (fun a => a < zz_N z ∧ σ1 (30, 0) a = 1) := ⟨⟨g.pos, h0⟩, fun a h => h.1, fun a b ha hb => ⟨g.lt ha.1 hb.1, h3 a b ha.1 hb.1 (h4 a ha.1 ha.2) (h4 b hb.1 hb.2)⟩⟩
    exact fun a ha => ⟨hgn a ha, fun h => (gp_gn.le hsb (fun x hx => ⟨hX x hx, hin x hx⟩) h).2⟩
theorem md_up2 {k : hw_P} {i x : Nat} (h : ∀ a, σ k a < 2) (hx : x < 2) : ∀ a, hw_up σ k i x k a < 2 := fun a => by
  rw [hw_up_v]
  split
  · exact hx
  · exact h a
theorem md_set1 {k : hw_P} {i a : Nat} (h : σ k a = 1) : hw_up σ k i 1 k a = 1 := by
  rw [hw_up_v]
  split
  · rfl
  · exact h
end
theorem md_mv {z : zz_Z} {σ σ1 : hw_M} (h : md_ok z σ) (hfr : ∀ u : hw_P, u ≠ (30, 0) → σ1 u = σ u) (hb : ∀ a, σ1 (30, 0) a < 2) : md_ok z σ1 := by
  have e20 := hfr (20, 0) (hw_ne (by decide))
  have e29 := hfr (29, 0) (hw_ne (by decide))
  have e31 := hfr (31, 0) (hw_ne (by decide))
  exact ⟨h.1, h.2.1, by rw [e20]; exact h.2.2.1, by rw [e20]; exact h.2.2.2.1, by rw [e29]; exact h.2.2.2.2.1, hb, by rw [e31]; exact h.2.2.2.2.2.2⟩
