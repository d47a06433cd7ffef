/-! The reference's table, level by level. -/
/-- the table holds the products of the last d generators -/
def tl_ok (z : zz_Z) (σ : hw_M) (r w p : Nat → Nat) (c : Nat → Nat → Nat) (d : Nat) : Prop := ∀ a b, a < tw_sz (zz_n z) r w d → b < tw_sz (zz_n z) r w d → σ (25, 0) (128 * a + b) = tw_op (zz_n z) r w p c d a b
section
variable {z : zz_Z} {σ σ1 : hw_M} {r w p : Nat → Nat} {c : Nat → Nat → Nat}
theorem tl_i {i : Nat} (h : tw_w (zz_n z) r w) (hi : i < zz_n z) (ht : tl_ok z σ r w p c (zz_n z - (i + 1))) : ∀ a b, a < w i → b < w i → σ (25, 0) (128 * a + b) = tw_op (zz_n z) r w p c (zz_n z - (i + 1)) a b := by
  intro a b ha hb
  exact ht a b (by rw [(tw_szi h hi).2]; exact ha) (by rw [(tw_szi h hi).2]; exact hb)
theorem mr_lv (h : mr_ok z σ r w p c) (hN : zz_N z ≤ 128) {i : Nat} (hi : i < zz_n z) : 0 < w i ∧ 2 ≤ r i ∧ r i * w i ≤ 128 ∧ w i ≤ 128 ∧ r i ≤ 128 ∧ 2 * w i ≤ r i * w i := by
  obtain ⟨h1, h2, -, -⟩ := h
  have a1 := h1.pos' hi
  have a2 := h1.1 i hi
  have a3 := h1.sz hi
  rw [← h2] at a3
  have a4 : 2 * w i ≤ r i * w i := Nat.mul_le_mul_right _ a2
  have a5 : r i * 1 ≤ r i * w i := Nat.mul_le_mul_left _ a1
  rw [Nat.mul_one] at a5
  exact ⟨a1, a2, by omega, by omega, by omega, a4⟩
/-- where an entry of the table stands -/
theorem tl_ix {u v u' v' : Nat} (hv : v < 128) (hv' : v' < 128) (h : 128 * u + v = 128 * u' + v') : u = u' ∧ v = v' := by omega
/-- one row of a column block has been entered -/
theorem tl_put {t r9 p9 : Nat} {o : Nat → Nat → Nat} {s : Nat → Nat} {σ2 : hw_M} {x y a : Nat} (ht : 0 < t) (hrt : r9 * t ≤ 128) (hx : x < r9) (hy : y < r9) (ha : a < t)
    (hout : ∀ k, ¬ (∃ b, b < t ∧ k = 128 * (x * t + a) + (y * t + b)) → σ2 (25, 0) k = σ1 (25, 0) k) (hin : ∀ b, b < t → σ2 (25, 0) (128 * (x * t + a) + (y * t + b)) = ex_op t r9 p9 o s (x * t + a) (y * t + b))
    (h1 : ∀ u v, u < r9 * t → v < y * t → σ1 (25, 0) (128 * u + v) = ex_op t r9 p9 o s u v) (h2 : ∀ u b, u < x * t + a → b < t → σ1 (25, 0) (128 * u + (y * t + b)) = ex_op t r9 p9 o s u (y * t + b)) :
    (∀ u v, u < r9 * t → v < y * t → σ2 (25, 0) (128 * u + v) = ex_op t r9 p9 o s u v) ∧ ∀ u b, u < x * t + a + 1 → b < t → σ2 (25, 0) (128 * u + (y * t + b)) = ex_op t r9 p9 o s u (y * t + b) := by
  have hyt : y * t + t ≤ r9 * t := by
    have := Nat.mul_le_mul_right t (show y + 1 ≤ r9 by omega)
    rw [Nat.add_mul, Nat.one_mul] at this
    exact this
  refine ⟨fun u v hu hv => ?_, fun u b hu hb => ?_⟩
  · rw [hout _ (fun ⟨b, hb, e⟩ => by have := (tl_ix (by omega) (by omega) e).2; omega)]
    exact h1 u v hu hv
  · by_cases e : u = x * t + a
    · rw [e]; exact hin b hb
    · rw [hout _ (fun ⟨b', hb', e'⟩ => by have := (tl_ix (by omega) (by omega) e').1; omega)]
      exact h2 u b (by omega) hb
/-- the row that enter writes is what the wider product is -/
theorem tl_val {t r9 p9 : Nat} {o : Nat → Nat → Nat} {s : Nat → Nat} {x y a b : Nat} (ha : a < t) (hb : b < t) : ex_op t r9 p9 o s (x * t + a) (y * t + b) = ((x + y) % r9) * t + o (if r9 ≤ x + y then o p9 (ex_it s y a) else ex_it s y a) b := ex_pair ha hb
end
theorem en_z {t r9 x y a b u v : Nat} (ht : 0 < t) (hrt : r9 * t ≤ 128) (hy : y < r9) (ha : a < t) (hb : b < t) (hu : u < t) (hv : v < t) (e : 128 * u + v = 128 * (x * t + a) + y * t + b) : x = 0 ∧ y = 0 ∧ u = a ∧ v = b := by
  have h1 := ex_lt hy hb
  have h2 := ex_lt (show 0 < r9 by omega) hv
  obtain ⟨e1, e2⟩ := tl_ix (u := u) (v := v) (u' := x * t + a) (v' := y * t + b) (by omega) (by omega) (by omega)
  have hx : x = 0 := by
    apply Classical.byContradiction
    intro q
    have : 1 * t ≤ x * t := Nat.mul_le_mul_right t (show 1 ≤ x by omega)
    omega
  have hy0 : y = 0 := by
    apply Classical.byContradiction
    intro q
    have : 1 * t ≤ y * t := Nat.mul_le_mul_right t (show 1 ≤ y by omega)
    omega
  subst hx
  subst hy0
  exact ⟨rfl, rfl, by omega, by omega⟩
