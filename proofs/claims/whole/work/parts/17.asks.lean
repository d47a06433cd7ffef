/-! What a level's building asks, by the number of its generator. -/
section
variable {n : Nat} {r w p : Nat → Nat} {c : Nat → Nat → Nat}
theorem tw_gpi (h : tw_w n r w) {i : Nat} (hi : i < n) (hk : tw_ok n r w p c (n - (i + 1))) : gp_ok (w i) (tw_op n r w p c (n - (i + 1))) := by
  have := tw_gp h (n - (i + 1)) (by omega) hk
  rw [(tw_szi h hi).2] at this
  exact this
theorem tb_s_l (h : tw_w n r w) {i : Nat} (hi : i < n) (hk : tw_ok n r w p c (n - (i + 1))) (hc : ∀ j, i < j → j < n → c i j < w i) (a : Nat) : tb_s n r w p c i a < w i := tw_s_l (tw_gpi h hi hk) hc a
theorem tb_it_l (h : tw_w n r w) {i : Nat} (hi : i < n) (hk : tw_ok n r w p c (n - (i + 1))) (hc : ∀ j, i < j → j < n → c i j < w i) {a : Nat} (ha : a < w i) : ∀ k, ex_it (tb_s n r w p c i) k a < w i
  | 0 => ha
  | k + 1 => tb_s_l h hi hk hc _
theorem tb_s_0 (h : tw_w n r w) (i : Nat) : tb_s n r w p c i 0 = 0 := tw_s_0 h
/-- the first letter goes over to its conjugate, the rest as before -/
theorem tb_lead (h : tw_w n r w) {i x j : Nat} (hi : i < n) (hk : tw_ok n r w p c (n - (i + 1))) (hc : ∀ j, i < j → j < n → c i j < w i) (hx : x < w i) (h1 : i < j) (h2 : j < n) (h3 : w j ≤ x) (h5 : ∀ k, i < k → k < j → x < w k) :
    tb_s n r w p c i x = tw_op n r w p c (n - (i + 1)) (c i j) (tb_s n r w p c i (x - w j)) := by
  refine tw_s_lead h (tw_gpi h hi hk) hc h1 h2 h3 ?_ h5
  have e := h.2.1 (j - 1) (by omega)
  rw [show j - 1 + 1 = j by omega] at e
  rw [← e]
  by_cases hj : j = i + 1
  · subst hj; exact hx
  · exact h5 (j - 1) (by omega) (by omega)
theorem tb_none (h : tw_w n r w) {i x : Nat} (hi : i < n) (hx : x < w i) (h5 : ∀ k, i < k → k < n → x < w k) : x = 0 := by
  by_cases e : i + 1 = n
  · have := h.2.2 i e; omega
  · have := h5 (n - 1) (by omega) (by omega)
    rw [h.2.2 (n - 1) (by omega)] at this
    omega
theorem tw_oki {i : Nat} (hi : i < n) : tw_ok n r w p c (n - i) ↔ tw_ok n r w p c (n - (i + 1)) ∧ tw_lv n r w p c (n - (i + 1)) i := by
  constructor
  · intro h
    refine ⟨h.le (by omega), ?_⟩
    have := h (n - (i + 1)) (by omega)
    rw [show n - (n - (i + 1) + 1) = i by omega] at this
    exact this
  · rintro ⟨h1, h2⟩ k hk
    by_cases e : k = n - (i + 1)
    · rw [e, show n - (n - (i + 1) + 1) = i by omega]
      exact h2
    · exact h1 k (by omega)
/-- the class's three questions -/
theorem tw_ask (h : tw_w n r w) {i : Nat} (hi : i < n) (hk : tw_ok n r w p c (n - (i + 1))) (hp : p i < w i) (hc : ∀ j, i < j → j < n → c i j < w i) :
    tw_ok n r w p c (n - i) ↔ ((∀ x j, x < w i → i < j → j < n → tb_s n r w p c i (tw_op n r w p c (n - (i + 1)) x (w j)) = tw_op n r w p c (n - (i + 1)) (tb_s n r w p c i x) (c i j)) ∧ tb_s n r w p c i (p i) = p i ∧
      ∀ x, x < w i → tw_op n r w p c (n - (i + 1)) (p i) (ex_it (tb_s n r w p c i) (r i) x) = tw_op n r w p c (n - (i + 1)) x (p i)) := by
  have e : n - (n - (i + 1) + 1) = i := by omega
  have h1 := tw_lv_iff (d := n - (i + 1)) h (by omega) hk (by rw [e]; exact hp) (by rw [e]; exact hc)
  rw [e] at h1
  rw [tw_oki hi]
  exact ⟨fun q => h1.mp q.2, fun q => ⟨hk, h1.mpr q⟩⟩
/-- the reference's questions -/
theorem tw_ask2 (h : tw_w n r w) {i : Nat} (hi : i < n) (hk : tw_ok n r w p c (n - (i + 1))) (hp : p i < w i) (hc : ∀ j, i < j → j < n → c i j < w i) :
    tw_ok n r w p c (n - i) ↔ ((∀ a b, a < w i → b < w i → tb_s n r w p c i (tw_op n r w p c (n - (i + 1)) a b) = tw_op n r w p c (n - (i + 1)) (tb_s n r w p c i a) (tb_s n r w p c i b)) ∧ tb_s n r w p c i (p i) = p i ∧
      ∀ a, a < w i → tw_op n r w p c (n - (i + 1)) a (p i) = tw_op n r w p c (n - (i + 1)) (p i) (ex_it (tb_s n r w p c i) (r i) a)) := by
  rw [tw_oki hi]
  constructor
  · rintro ⟨-, q⟩
    exact ⟨q.2.2.2.2.1, q.2.2.2.2.2.1, q.2.2.2.2.2.2⟩
  · rintro ⟨q1, q2, q3⟩
    have hr := h.1 i hi
    exact ⟨hk, tw_gpi h hi hk, hp, by omega, fun a _ => tb_s_l h hi hk hc a, q1, q2, q3⟩
end
