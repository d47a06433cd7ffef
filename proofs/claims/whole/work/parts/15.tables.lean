/-! The look-up tables: what each level's two rows hold, and that the look-ups give the product and the inverse. -/
def tb_s (n : Nat) (r w p : Nat → Nat) (c : Nat → Nat → Nat) (i : Nat) : Nat → Nat := tw_s n r w (c i) (tw_op n r w p c (n - (i + 1))) i
def tb_ok (n : Nat) (r w p : Nat → Nat) (c mv cr : Nat → Nat → Nat) (i : Nat) : Prop :=
  ∀ k, k < r i * w i → mv i k = ex_it (tb_s n r w p c i) (k / w i) (k % w i) ∧ cr i k = tw_op n r w p c (n - (i + 1)) (p i) (ex_it (tb_s n r w p c i) (k / w i) (k % w i))
section
variable {n : Nat} {r w p : Nat → Nat} {c mv cr : Nat → Nat → Nat}
theorem tb_at {i : Nat} (h : tb_ok n r w p c mv cr i) {y a : Nat} (hy : y < r i) (ha : a < w i) : mv i (y * w i + a) = ex_it (tb_s n r w p c i) y a ∧ cr i (y * w i + a) = tw_op n r w p c (n - (i + 1)) (p i) (ex_it (tb_s n r w p c i) y a) := by
  have := h (y * w i + a) (ex_lt hy ha)
  rw [(ex_d ha).1, (ex_d ha).2] at this
  exact this
theorem tw_szi (h : tw_w n r w) {i : Nat} (hi : i < n) : tw_sz n r w (n - i) = r i * w i ∧ tw_sz n r w (n - (i + 1)) = w i := by
  constructor
  · unfold tw_sz
    rw [if_neg (by omega), show n - (n - i) = i by omega]
  · have := tw_sz_w h (show n - (i + 1) < n by omega)
    rw [show n - (n - (i + 1) + 1) = i by omega] at this
    exact this
theorem tw_lvi {i : Nat} (hi : i < n) (hk : tw_ok n r w p c (n - i)) : ex_h (w i) (r i) (p i) (tw_op n r w p c (n - (i + 1))) (tb_s n r w p c i) := by
  have := hk (n - (i + 1)) (by omega)
  rw [show n - (n - (i + 1) + 1) = i by omega] at this
  exact this
theorem tw_opi {i : Nat} (hi : i < n) : tw_op n r w p c (n - i) = ex_op (w i) (r i) (p i) (tw_op n r w p c (n - (i + 1))) (tb_s n r w p c i) := by
  conv => lhs; rw [show n - i = (n - (i + 1)) + 1 by omega]
  show ex_op (w (n - (n - (i + 1) + 1))) _ _ _ _ = _
  rw [show n - (n - (i + 1) + 1) = i by omega]
  rfl
/-- one level of a product by look-up -/
theorem tw_step (h : tw_w n r w) {i a b : Nat} (hi : i < n) (hk : tw_ok n r w p c (n - i)) (ht : tb_ok n r w p c mv cr i) (ha : a < tw_sz n r w (n - i)) (hb : b < tw_sz n r w (n - i)) :
    b - b % w i + a % w i < r i * w i ∧ a / w i < r i ∧ b / w i < r i ∧ b % w i < w i ∧
      (r i ≤ a / w i + b / w i → cr i (b - b % w i + a % w i) < w i ∧ tw_op n r w p c (n - i) a b = (a / w i + b / w i - r i) * w i + tw_op n r w p c (n - (i + 1)) (cr i (b - b % w i + a % w i)) (b % w i)) ∧
      (a / w i + b / w i < r i → mv i (b - b % w i + a % w i) < w i ∧ tw_op n r w p c (n - i) a b = (a / w i + b / w i) * w i + tw_op n r w p c (n - (i + 1)) (mv i (b - b % w i + a % w i)) (b % w i)) := by
  have hl := tw_lvi hi hk
  have g := hl.1
  rw [(tw_szi h hi).1] at ha hb
  rw [tw_opi hi]
  obtain ⟨x, a0, hx, ha0, rfl⟩ := ex_of g.pos ha
  obtain ⟨y, b0, hy, hb0, rfl⟩ := ex_of g.pos hb
  clear ha hb
  revert ha0 hb0
  intro ha hb
  have ht' := tb_at ht hy ha
  rw [ex_pair ha hb, (ex_d ha).1, (ex_d ha).2, (ex_d hb).1, (ex_d hb).2]
  have e1 : y * w i + b0 - b0 + a0 = y * w i + a0 := by omega
  rw [e1, ht'.1, ht'.2]
  refine ⟨ex_lt hy ha, hx, hy, hb, fun hc => ⟨g.lt hl.2.1 (ex_itl hl ha y), ?_⟩, fun hc => ⟨ex_itl hl ha y, ?_⟩⟩
  · rw [if_pos hc, Nat.mod_eq_sub_mod hc, Nat.mod_eq_of_lt (show x + y - r i < r i by omega)]
  · rw [if_neg (by omega), Nat.mod_eq_of_lt hc]
/-- one level of an inverse by look-up -/
theorem tw_istep (h : tw_w n r w) {i a : Nat} (hi : i < n) (hk : tw_ok n r w p c (n - i)) (ht : tb_ok n r w p c mv cr i) (ha : a < tw_sz n r w (n - i)) :
    a / w i < r i ∧ a % w i < w i ∧ (0 < a / w i → (r i - a / w i) * w i + a % w i < r i * w i ∧ cr i ((r i - a / w i) * w i + a % w i) < w i ∧ tw_iv n r w p c (n - i) a = (r i - a / w i) * w i + tw_iv n r w p c (n - (i + 1)) (cr i ((r i - a / w i) * w i + a % w i))) ∧
      (a / w i = 0 → tw_iv n r w p c (n - i) a = tw_iv n r w p c (n - (i + 1)) (a % w i)) := by
  have hl := tw_lvi hi hk
  have g := hl.1
  rw [(tw_szi h hi).1] at ha
  have e : tw_iv n r w p c (n - i) a = if 0 < a / w i then (r i - a / w i) * w i + tw_iv n r w p c (n - (i + 1)) (tw_op n r w p c (n - (i + 1)) (p i) (ex_it (tb_s n r w p c i) (r i - a / w i) (a % w i))) else tw_iv n r w p c (n - (i + 1)) (a % w i) := by
    have e0 : ∀ k, tw_iv n r w p c (k + 1) a = if 0 < a / w (n - (k + 1)) then (r (n - (k + 1)) - a / w (n - (k + 1))) * w (n - (k + 1)) + tw_iv n r w p c k (tw_op n r w p c k (p (n - (k + 1))) (ex_it (tw_s n r w (c (n - (k + 1))) (tw_op n r w p c k) (n - (k + 1))) (r (n - (k + 1)) - a / w (n - (k + 1))) (a % w (n - (k + 1))))) else tw_iv n r w p c k (a % w (n - (k + 1))) := fun k => rfl
    have e1 := e0 (n - (i + 1))
    rw [show n - (n - (i + 1) + 1) = i by omega, show n - (i + 1) + 1 = n - i by omega] at e1
    exact e1
  rw [e]
  obtain ⟨x, a0, hx, ha0, rfl⟩ := ex_of g.pos ha
  clear ha
  revert ha0
  intro ha
  rw [(ex_d ha).1, (ex_d ha).2]
  refine ⟨hx, ha, fun hc => ?_, fun hc => by rw [if_neg (by omega)]⟩
  have hy : r i - x < r i := by omega
  have ht' := tb_at ht hy ha
  rw [if_pos hc, ht'.2]
  exact ⟨ex_lt hy ha, g.lt hl.2.1 (ex_itl hl ha _), rfl⟩
/-- the whole group -/
theorem tw_all (h : tw_w n r w) (hk : tw_ok n r w p c n) : gp_ok (tw_sz n r w n) (tw_op n r w p c n) := tw_gp h n (Nat.le_refl n) hk
theorem tw_ivg (h : tw_w n r w) (hk : tw_ok n r w p c n) {a : Nat} (ha : a < tw_sz n r w n) : tw_iv n r w p c n a = gp_iv (tw_sz n r w n) (tw_op n r w p c n) a := by
  obtain ⟨h1, h2⟩ := tw_iv_ok h n (Nat.le_refl n) hk a ha
  exact (tw_all h hk).ivu ha h1 h2
theorem tw_w.sz {n : Nat} {r w : Nat → Nat} (h : tw_w n r w) {j : Nat} (hj : j < n) : r j * w j ≤ tw_sz n r w n := by
  unfold tw_sz
  rw [if_neg (by omega), Nat.sub_self]
  by_cases e : j = 0
  · subst e; exact Nat.le_refl _
  · have e1 := h.2.1 (j - 1) (by omega)
    rw [show j - 1 + 1 = j by omega] at e1
    rw [← e1]
    have h0 := h.1 0 (by omega)
    have h1 : 2 * w 0 ≤ r 0 * w 0 := Nat.mul_le_mul_right _ h0
    by_cases e2 : j - 1 = 0
    · rw [e2]; omega
    · have := h.lt (show 0 < j - 1 by omega) (show j - 1 < n by omega)
      omega
theorem tw_w.ltN {n : Nat} {r w : Nat → Nat} (h : tw_w n r w) {j : Nat} (hj : j < n) : w j < tw_sz n r w n := by
  have h1 := h.sz hj
  have h2 : 2 * w j ≤ r j * w j := Nat.mul_le_mul_right _ (h.1 j hj)
  have := h.pos' hj
  omega
/-- every element is a product of the generators -/
theorem tw_gn (h : tw_w n r w) (hk : tw_ok n r w p c n) : ∀ a, a < tw_sz n r w n → gp_gn (tw_sz n r w n) (tw_op n r w p c n) (fun x => ∃ j, j < n ∧ x = w j) a := by
  intro a
  induction a using Nat.strongRecOn with
  | ind a ih =>
    intro ha
    have g := tw_all h hk
    have hX : ∀ x, (∃ j, j < n ∧ x = w j) → x < tw_sz n r w n := fun x hx => by obtain ⟨j, hj, rfl⟩ := hx; exact h.ltN hj
    have hs := gp_gn.sb g hX
    by_cases h0 : a = 0
    · subst h0; exact hs.1
    · have hn : 0 < n := by
        apply Nat.pos_of_ne_zero
        intro z
        subst z
        have : a < 1 := ha
        omega
      have hj : ∃ j, j < n ∧ w j ≤ a ∧ a < r j * w j := by
        have hz : tw_sz n r w n = r 0 * w 0 := by unfold tw_sz; rw [if_neg (by omega), Nat.sub_self]
        by_cases h1 : w 0 ≤ a
        · exact ⟨0, hn, h1, by rw [← hz]; exact ha⟩
        · obtain ⟨j, a1, a2, a3, a4, a5⟩ := h.lead hn (show a < w 0 by omega) (by omega)
          exact ⟨j, a2, a3, a4⟩
      obtain ⟨j, j1, j2, j3⟩ := hj
      have e := tw_wd h n (Nat.le_refl n) hk j a (by omega) j1 j2 j3
      have hp := h.pos' j1
      rw [← e]
      exact hs.2.2 _ _ (gp_gn.in ⟨j, j1, rfl⟩) (ih (a - w j) (by omega) (by omega))
end
