/-! The reference's table, level by level. -/
/-- the table holds the products of the last d generators -/
def tl_ok (z : zz_Z) (σ : hw_M) (r w p : Nat → Nat) (c : Nat → Nat → Nat) (d : Nat) : Prop := ∀ a b, a < tw_sz (zz_n z) r w d → b < tw_sz (zz_n z) r w d → σ (25, 0) (128 * a + b) = tw_op (zz_n z) r w p c d a b
section
variable {z : zz_Z} {σ σ1 : hw_M} {r w p : Nat → Nat} {c : Nat → Nat → Nat}
theorem tl_i {i : Nat} (h : tw_w (zz_n z) r w) (hi : i < zz_n z) (ht : tl_ok z σ r w p c (zz_n z - (i + 1))) : ∀ a b, a < w i → b < w i → σ (25, 0) (128 * a + b) = tw_op (zz_n z) r w p c (zz_n z - (i + 1)) a b := by
  intro a b ha hb
  exact ht a b (by rw [(tw_szi h hi).2]; exact ha) (by rw [(tw_szi h hi).2]; exact hb)
theorem mr_lv (h : mr_ok z σ r w p c) (hN : zz_N z ≤ 128) {i : Nat} (hi : i < zz_n z) : 0 < w i ∧ 2 ≤ r i ∧ r i * w i ≤ 128 ∧ w i ≤ 128 ∧ r i ≤ 128 ∧ 2 * w i ≤ r i * w i := by
  obtain ⟨h1, h2, -, -⟩ := h
  have a1 := h1.pos' hi
  have a2 := h1.1 i hi
  have a3 := h1.sz hi
  rw [← h2] at a3
  have a4 : 2 * w i ≤ r i * w i := Nat.mul_le_mul_right _ a2
  have a5 : r i * 1 ≤ r i * w i := Nat.mul_le_mul_left _ a1
  rw [Nat.mul_one] at a5
  exact ⟨a1, a2, by omega, by omega, by omega, a4⟩
/-- where an entry of the table stands -/
theorem tl_ix {u v u' v' : Nat} (hv : v < 128) (hv' : v' < 128) (h : 128 * u + v = 128 * u' + v') : u = u' ∧ v = v' := by omega
/-- one row of a column block has been entered -/
theorem tl_put {t r9 p9 : Nat} {o : Nat → Nat → Nat} {s : Nat → Nat} {σ2 : hw_M} {x y a : Nat} (ht : 0 < t) (hrt : r9 * t ≤ 128) (hx : x < r9) (hy : y < r9) (ha : a < t)
    (hout : ∀ k, ¬ (∃ b, b < t ∧ k = 128 * (x * t + a) + (y * t + b)) → σ2 (25, 0) k = σ1 (25, 0) k) (hin : ∀ b, b < t → σ2 (25, 0) (128 * (x * t + a) + (y * t + b)) = ex_op t r9 p9 o s (x * t + a) (y * t + b))
    (h1 : ∀ u v, u < r9 * t → v < y * t → σ1 (25, 0) (128 * u + v) = ex_op t r9 p9 o s u v) (h2 : ∀ u b, u < x * t + a → b < t → σ1 (25, 0) (128 * u + (y * t + b)) = ex_op t r9 p9 o s u (y * t + b)) :
    (∀ u v, u < r9 * t → v < y * t → σ2 (25, 0) (128 * u + v) = ex_op t r9 p9 o s u v) ∧ ∀ u b, u < x * t + a + 1 → b < t → σ2 (25, 0) (128 * u + (y * t + b)) = ex_op t r9 p9 o s u (y * t + b) := by
  have hyt : y * t + t ≤ r9 * t := by
    have := Nat.mul_le_mul_right t (show y + 1 ≤ r9 by omega)
    rw [Nat.add_mul, Nat.one_mul] at this
    exact this
  refine ⟨fun u v hu hv => ?_, fun u b hu hb => ?_⟩
  · rw [hout _ (fun ⟨b, hb, e⟩ => by have := (tl_ix (by omega) (by omega) e).2; omega)]
    exact h1 u v hu hv
  · by_cases e : u = x * t + a
    · rw [e]; exact hin b hb
    · rw [hout _ (fun ⟨b', hb', e'⟩ => by have := (tl_ix (by omega) (by omega) e').1; omega)]
      exact h2 u b (by omega) hb
/-- the row that enter writes is what the wider product is -/
theorem tl_val {t r9 p9 : Nat} {o : Nat → Nat → Nat} {s : Nat → Nat} {x y a b : Nat} (ha : a < t) (hb : b < t) : ex_op t r9 p9 o s (x * t + a) (y * t + b) = ((x + y) % r9) * t + o (if r9 ≤ x + y then o p9 (ex_it s y a) else ex_it s y a) b := ex_pair ha hb
end
theorem en_z {t r9 x y a b u v : Nat} (ht : 0 < t) (hrt : r9 * t ≤ 128) (hy : y < r9) (ha : a < t) (hb : b < t) (hu : u < t) (hv : v < t) (e : 128 * u + v = 128 * (x * t + a) + y * t + b) : x = 0 ∧ y = 0 ∧ u = a ∧ v = b := by
  have h1 := ex_lt hy hb
  have h2 := ex_lt (show 0 < r9 by omega) hv
  obtain ⟨e1, e2⟩ := tl_ix (u := u) (v := v) (u' := x * t + a) (v' := y * t + b) (by omega) (by omega) (by omega)
  have hx : x = 0 := by
    apply Classical.byContradiction
    intro q
    have : 1 * t ≤ x * t := Nat.mul_le_mul_right t (show 1 ≤ x by omega)
    omega
  have hy0 : y = 0 := by
    apply Classical.byContradiction
    intro q
    have : 1 * t ≤ y * t := Nat.mul_le_mul_right t (show 1 ≤ y by omega)
    omega
  subst hx
  subst hy0
  exact ⟨rfl, rfl, by omega, by omega⟩
section
variable {z : zz_Z} {σ σ1 : hw_M} {r w p : Nat → Nat} {c : Nat → Nat → Nat}
/-- only table, once and many have changed -/
def mt_q (σ σ1 : hw_M) : Prop := ∀ u : hw_P, u ≠ (25, 0) → u ≠ (26, 0) → u ≠ (27, 0) → σ1 u = σ u
theorem mt_q.rf {σ : hw_M} : mt_q σ σ := fun _ _ _ _ => rfl
theorem mt_q.tr {σ σ1 σ2 : hw_M} (h : mt_q σ σ1) (h2 : mt_q σ1 σ2) : mt_q σ σ2 := fun u a b c => (h2 u a b c).trans (h u a b c)
theorem mt_at (h : mt_q σ σ1) {k : Nat} (hk : k ≠ 25 ∧ k ≠ 26 ∧ k ≠ 27) (i : Nat) : σ1 (k, i) = σ (k, i) := h (k, i) (hw_ne hk.1) (hw_ne hk.2.1) (hw_ne hk.2.2)
theorem mt_d (h : mt_q σ σ1) (hd : md_ok z σ) : md_ok z σ1 := md_k hd (fun k hk => mt_at h (by omega) 0)
theorem mt_r (h : mt_q σ σ1) (hr : mr_ok z σ r w p c) : mr_ok z σ1 r w p c := mr_keep hr (mt_at h (by decide) 0) (mt_at h (by decide) 0) (mt_at h (by decide) 0) (mt_at h (by decide) 0)
theorem mt_25 (f : ∀ u : hw_P, u ≠ (25, 0) → σ1 u = σ u) : mt_q σ σ1 := fun u h _ _ => f u h
theorem mt_26 (f : ∀ u : hw_P, u ≠ (26, 0) → σ1 u = σ u) : mt_q σ σ1 := fun u _ h _ => f u h
theorem mt_27 (f : ∀ u : hw_P, u ≠ (27, 0) → σ1 u = σ u) : mt_q σ σ1 := fun u _ _ h => f u h
theorem tl_mv {d : Nat} (e : σ1 (25, 0) = σ (25, 0)) (h : tl_ok z σ r w p c d) : tl_ok z σ1 r w p c d := by
  unfold tl_ok
  rw [e]
  exact h
theorem tl_wide {i : Nat} (h : tw_w (zz_n z) r w) (hi : i < zz_n z) (hd : ∀ u v, u < r i * w i → v < r i * w i → σ (25, 0) (128 * u + v) = ex_op (w i) (r i) (p i) (tw_op (zz_n z) r w p c (zz_n z - (i + 1))) (tb_s (zz_n z) r w p c i) u v) : tl_ok z σ r w p c (zz_n z - i) := by
  intro a b ha hb
  rw [(tw_szi h hi).1] at ha hb
  rw [tw_opi hi]
  exact hd a b ha hb
theorem tl_col {t r9 y : Nat} {F : Nat → Nat → Prop} (h1 : ∀ u v, u < r9 * t → v < y * t → F u v) (h2 : ∀ u b, u < r9 * t → b < t → F u (y * t + b)) : ∀ u v, u < r9 * t → v < (y + 1) * t → F u v := by
  intro u v hu hv
  rw [Nat.add_mul, Nat.one_mul] at hv
  by_cases q : v < y * t
  · exact h1 u v hu q
  · have := h2 u (v - y * t) hu (by omega)
    rwa [show y * t + (v - y * t) = v by omega] at this
theorem tl_0 : tl_ok z (hw_up σ (25, 0) 0 0) r w p c 0 := by
  intro a b ha hb
  have ha : a < 1 := ha
  have hb : b < 1 := hb
  have e1 : a = 0 := by omega
  have e2 : b = 0 := by omega
  subst e1
  subst e2
  exact hw_up_s _ _ _ _
end
theorem fx_mod {z : zz_Z} {σ σ1 σ2 σ3 σ5 : hw_M} {r w p : Nat → Nat} {c : Nat → Nat → Nat} {S : Nat → Nat → Prop} {b1 : Nat} (hM : ms_ok z σ r w p c S) (hf0 : σ (20, 0) 6 = 0) (hb1 : b1 < 2) (f1 : mt_q σ σ1) (hk1 : b1 = 1 ↔ tw_ok (zz_n z) r w p c (zz_n z)) (ht1 : b1 = 1 → tl_ok z σ1 r w p c (zz_n z))
    (f2 : ∀ u : hw_P, u ≠ (20, 0) → σ2 u = σ1 u) (hfl2 : σ2 (20, 0) 6 = b1) (hN2 : σ2 (20, 0) 1 = zz_N z) (hn2 : σ2 (20, 0) 0 = zz_n z) (hfr : ∀ u : hw_P, u ≠ (28, 0) → σ3 u = σ2 u) (hfin : b1 = 1 → ∀ a9, a9 < zz_N z → σ3 (28, 0) a9 = gp_iv (zz_N z) (tw_op (zz_n z) r w p c (zz_n z)) a9)
    (hfr5 : ∀ u : hw_P, u ≠ (29, 0) → σ5 u = σ3 u) (hb5 : ∀ a, σ5 (29, 0) a < 2) (hpl : b1 = 1 → ∀ y, y < 512 → σ5 (29, 0) y = if y % 128 = 0 then 1 else 0) :
    b1 = cn_n (σ (20, 0) 6 = 1 ∨ tw_ok (zz_n z) r w p c (zz_n z)) 1 0 ∧ ms_ok z σ5 r w p c (fun s v => (σ (20, 0) 6 = 1 ∧ S s v) ∨ (σ (20, 0) 6 ≠ 1 ∧ v = 0)) ∧ σ5 (20, 0) 6 = b1 ∧ ∀ u : hw_P, u.1 < 20 → σ5 u = σ u := by
  have hne : ¬ σ (20, 0) 6 = 1 := fun q => by rw [hf0] at q; cases q
  have hN := hM.1.2.1
  have e : ∀ k, k ≠ 20 → k ≠ 25 ∧ k ≠ 26 ∧ k ≠ 27 → k ≠ 28 → k ≠ 29 → ∀ i, σ5 (k, i) = σ (k, i) := fun k h1 h2 h3 h4 i =>
    (hfr5 (k, i) (hw_ne h4)).trans ((hfr (k, i) (hw_ne h3)).trans ((f2 (k, i) (hw_ne h1)).trans (mt_at f1 h2 i)))
  have e20 : σ5 (20, 0) = σ2 (20, 0) := (hfr5 (20, 0) (hw_ne (by decide))).trans (hfr (20, 0) (hw_ne (by decide)))
  have e25 : σ5 (25, 0) = σ1 (25, 0) := (hfr5 (25, 0) (hw_ne (by decide))).trans ((hfr (25, 0) (hw_ne (by decide))).trans (f2 (25, 0) (hw_ne (by decide))))
  have e28 : σ5 (28, 0) = σ3 (28, 0) := hfr5 (28, 0) (hw_ne (by decide))
  refine ⟨cn_lt hb1 ⟨fun q => Or.inr (hk1.mp q), fun q => q.elim (fun h => absurd h hne) hk1.mpr⟩, ⟨⟨hM.1.1, hN, by rw [e20]; exact hn2, by rw [e20]; exact hN2, hb5, by rw [e 30 (by decide) (by decide) (by decide) (by decide)]; exact hM.1.2.2.2.2.2.1, by rw [e 31 (by decide) (by decide) (by decide) (by decide)]; exact hM.1.2.2.2.2.2.2⟩, mr_keep hM.2.1 (e 21 (by decide) (by decide) (by decide) (by decide) 0) (e 22 (by decide) (by decide) (by decide) (by decide) 0) (e 23 (by decide) (by decide) (by decide) (by decide) 0) (e 24 (by decide) (by decide) (by decide) (by decide) 0), by rw [e20, hfl2]; exact hb1, fun hf => ?_⟩, by rw [e20]; exact hfl2, fun u hu => ?_⟩
  · rw [e20, hfl2] at hf
    have hk := hk1.mp hf
    have hsz := hM.2.1.2.1
    refine ⟨hk, ⟨by rw [hsz]; exact tw_all hM.2.1.1 hk, fun a b ha hb => ?_, fun a ha => by rw [e28]; exact hfin hf a ha⟩, fun s hs a ha => ?_⟩
    · rw [e25]; exact ht1 hf a b (Nat.lt_of_lt_of_eq ha hsz) (Nat.lt_of_lt_of_eq hb hsz)
    · rw [hpl hf _ (by omega)]
      by_cases q : a = 0
      · rw [if_pos (by omega)]; exact ⟨fun _ => Or.inr ⟨hne, q⟩, fun _ => rfl⟩
      · rw [if_neg (by omega)]; exact ⟨fun h => absurd h (by decide), fun h => h.elim (fun h2 => absurd h2.1 hne) (fun h2 => absurd h2.2 q)⟩
  · have : u = (u.1, u.2) := rfl
    rw [this]
    exact e u.1 (by omega) (by omega) (by omega) (by omega) u.2
