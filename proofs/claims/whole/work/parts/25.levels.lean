/-! The Collector's memory: products, what a generator turns a word into, which levels stand. -/
abbrev mo_p (z : zz_Z) (σ : hw_M) (d : Nat) : Nat → Nat → Nat := tw_op (zz_n z) (σ (2, 0)) (σ (3, 0)) (σ (4, 0)) (fun i => σ (6, i)) d
abbrev mo_t (z : zz_Z) (σ : hw_M) (i : Nat) : Nat → Nat := tb_s (zz_n z) (σ (2, 0)) (σ (3, 0)) (σ (4, 0)) (fun i => σ (6, i)) i
abbrev mo_k (z : zz_Z) (σ : hw_M) (d : Nat) : Prop := tw_ok (zz_n z) (σ (2, 0)) (σ (3, 0)) (σ (4, 0)) (fun i => σ (6, i)) d
abbrev mo_z (z : zz_Z) (σ : hw_M) (d : Nat) : Nat := tw_sz (zz_n z) (σ (2, 0)) (σ (3, 0)) d
/-- the levels from f on stand, and their tables hold -/
def lo_ok (z : zz_Z) (σ : hw_M) (f : Nat) : Prop := st_ok z σ ∧ mo_k z σ (zz_n z - f) ∧ ∀ i, f ≤ i → i < zz_n z → tb_ok (zz_n z) (σ (2, 0)) (σ (3, 0)) (σ (4, 0)) (fun i => σ (6, i)) (fun i => σ (8, i)) (fun i => σ (10, i)) i
/-- the relations are in bounds -/
def rl_ok (z : zz_Z) (σ : hw_M) : Prop := (∀ i, i < zz_n z → σ (4, 0) i < σ (3, 0) i) ∧ ∀ i j, i < j → j < zz_n z → σ (6, i) j < σ (3, 0) i
/-- the whole group's product -/
abbrev gr_p (z : zz_Z) (σ : hw_M) : Nat → Nat → Nat := mo_p z σ (zz_n z)
theorem lo_gp {z : zz_Z} {σ : hw_M} (h : lo_ok z σ 0) : gp_ok (zz_N z) (gr_p z σ) := by
  obtain ⟨⟨-, -, -, -, hw, hsz, -⟩, hk, -⟩ := h
  rw [hsz]
  exact tw_all hw hk
theorem st_lv {z : zz_Z} {σ : hw_M} (h : st_ok z σ) {i : Nat} (hi : i < zz_n z) : 0 < σ (3, 0) i ∧ 2 ≤ σ (2, 0) i ∧ σ (2, 0) i * σ (3, 0) i ≤ 128 ∧ σ (3, 0) i ≤ 128 ∧ σ (2, 0) i ≤ 128 ∧ zz_l z i = σ (2, 0) i * σ (3, 0) i ∧ 2 * σ (3, 0) i ≤ σ (2, 0) i * σ (3, 0) i := by
  obtain ⟨hn7, hN, hn, hNe, hw, hsz, hln⟩ := h
  have h1 := hw.pos' hi
  have h2 := hw.1 i hi
  have h3 := hw.sz hi
  rw [← hsz] at h3
  have h4 : 2 * σ (3, 0) i ≤ σ (2, 0) i * σ (3, 0) i := Nat.mul_le_mul_right _ h2
  have h5 : σ (2, 0) i * 1 ≤ σ (2, 0) i * σ (3, 0) i := Nat.mul_le_mul_left _ h1
  rw [Nat.mul_one] at h5
  exact ⟨h1, h2, by omega, by omega, by omega, hln i hi, h4⟩
theorem st_sz {z : zz_Z} {σ : hw_M} (h : st_ok z σ) {i : Nat} (hi : i < zz_n z) : mo_z z σ (zz_n z - i) = σ (2, 0) i * σ (3, 0) i ∧ mo_z z σ (zz_n z - (i + 1)) = σ (3, 0) i := tw_szi h.2.2.2.2.1 hi
/-- memory that is the same but for tables below a level -/
def lo_fr (f : Nat) (σ σ1 : hw_M) : Prop := ∀ u : hw_P, 0 < u.1 → u.1 < 12 → (u.1 = 8 → f ≤ u.2) → (u.1 = 10 → f ≤ u.2) → σ1 u = σ u
theorem lo_keep {z : zz_Z} {σ σ1 : hw_M} {f : Nat} (h : lo_ok z σ f) (hf : lo_fr f σ σ1) : lo_ok z σ1 f ∧ (∀ d, mo_p z σ1 d = mo_p z σ d) ∧ (∀ i, mo_t z σ1 i = mo_t z σ i) ∧ (∀ d, mo_z z σ1 d = mo_z z σ d) := by
  have e1 : σ1 (1, 0) = σ (1, 0) := hf _ (by decide) (by decide) (fun q => absurd q (by decide)) (fun q => absurd q (by decide))
  have e2 : σ1 (2, 0) = σ (2, 0) := hf _ (by decide) (by decide) (fun q => absurd q (by decide)) (fun q => absurd q (by decide))
  have e3 : σ1 (3, 0) = σ (3, 0) := hf _ (by decide) (by decide) (fun q => absurd q (by decide)) (fun q => absurd q (by decide))
  have e4 : σ1 (4, 0) = σ (4, 0) := hf _ (by decide) (by decide) (fun q => absurd q (by decide)) (fun q => absurd q (by decide))
  have e6 : (fun i => σ1 (6, i)) = fun i => σ (6, i) := funext fun i => hf _ (by show 0 < (6 : Nat); decide) (by show (6 : Nat) < 12; decide) (fun q => absurd q (by show ¬ (6 : Nat) = 8; decide)) (fun q => absurd q (by show ¬ (6 : Nat) = 10; decide))
  refine ⟨⟨?_, ?_, fun i h1 h2 => ?_⟩, fun d => ?_, fun i => ?_, fun d => ?_⟩
  · unfold st_ok
    rw [e1, e2, e3]
    exact h.1
  · show tw_ok _ _ _ _ _ _
    rw [e2, e3, e4, e6]
    exact h.2.1
  · rw [e2, e3, e4, e6]
    have e8 : σ1 (8, i) = σ (8, i) := hf _ (by show 0 < (8 : Nat); decide) (by show (8 : Nat) < 12; decide) (fun _ => h1) (fun q => absurd q (by show ¬ (8 : Nat) = 10; decide))
    have e10 : σ1 (10, i) = σ (10, i) := hf _ (by show 0 < (10 : Nat); decide) (by show (10 : Nat) < 12; decide) (fun q => absurd q (by show ¬ (10 : Nat) = 8; decide)) (fun _ => h1)
    have h3 := h.2.2 i h1 h2
    intro k hk
    have h4 := h3 k hk
    show σ1 (8, i) k = _ ∧ σ1 (10, i) k = _
    rw [e8, e10]
    exact h4
  · show tw_op _ _ _ _ _ _ = _
    rw [e2, e3, e4, e6]
  · show tb_s _ _ _ _ _ _ = _
    rw [e2, e3, e4, e6]
  · show tw_sz _ _ _ _ = _
    rw [e2, e3]
abbrev mo_i (z : zz_Z) (σ : hw_M) (d a : Nat) : Nat := tw_iv (zz_n z) (σ (2, 0)) (σ (3, 0)) (σ (4, 0)) (fun i => σ (6, i)) d a
theorem mo_iv {z : zz_Z} {σ : hw_M} (h : lo_ok z σ 0) {a : Nat} (ha : a < zz_N z) : mo_i z σ (zz_n z) a = gp_iv (zz_N z) (gr_p z σ) a := by
  obtain ⟨⟨-, -, -, -, hw, hsz, -⟩, hk, -⟩ := h
  rw [hsz] at ha ⊢
  exact tw_ivg hw hk ha
theorem lo_fr8 {σ σ1 : hw_M} {f i : Nat} (h : ∀ u : hw_P, u ≠ (8, i) → σ1 u = σ u) (hi : i < f) : lo_fr f σ σ1 := by
  intro u h0 h1 h2 h3
  refine h u (fun e => ?_)
  rw [e] at h2
  have := h2 rfl
  exact absurd this (Nat.not_le.mpr hi)
theorem lo_fr10 {σ σ1 : hw_M} {f i : Nat} (h : ∀ u : hw_P, u ≠ (10, i) → σ1 u = σ u) (hi : i < f) : lo_fr f σ σ1 := by
  intro u h0 h1 h2 h3
  refine h u (fun e => ?_)
  rw [e] at h3
  have := h3 rfl
  exact absurd this (Nat.not_le.mpr hi)
/-- one value more, behind those that hold -/
theorem fm_put {σ1 : hw_M} {k x : Nat} {q : hw_P} {f : Nat → Nat} (h : ∀ y, y < k → σ1 q y = f y) (hx : x = f k) : ∀ y, y < k + 1 → hw_up σ1 q k x q y = f y := by
  intro y hy
  rw [hw_up_v]
  by_cases e : y = k
  · rw [if_pos e, e]; exact hx
  · rw [if_neg e]; exact h y (by omega)
theorem fm_d1 {w x : Nat} (h : x < w) : (w + x) / w = 1 := by
  have := (ex_d (e := 1) h).1
  rwa [Nat.one_mul] at this
theorem fm_m1 {w x : Nat} (h : x < w) : (w + x) % w = x := by
  have := (ex_d (e := 1) h).2
  rwa [Nat.one_mul] at this
theorem fm_next {s : Nat → Nat} {w k : Nat} (hw : 0 < w) (h : w ≤ k) : s (ex_it s ((k - w) / w) ((k - w) % w)) = ex_it s (k / w) (k % w) := by
  have e1 : k / w = (k - w) / w + 1 := by rw [Nat.div_eq k w, if_pos ⟨hw, h⟩]
  have e2 : k % w = (k - w) % w := Nat.mod_eq_sub_mod h
  rw [e1, e2]
  rfl
