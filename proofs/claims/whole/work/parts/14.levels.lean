/-! The groups of the words behind, level by level (d generators: the last d). -/
def tw_op (n : Nat) (r w p : Nat → Nat) (c : Nat → Nat → Nat) : Nat → Nat → Nat → Nat
  | 0 => fun _ _ => 0
  | d + 1 => ex_op (w (n - (d + 1))) (r (n - (d + 1))) (p (n - (d + 1))) (tw_op n r w p c d) (tw_s n r w (c (n - (d + 1))) (tw_op n r w p c d) (n - (d + 1)))
/-- the level of g(i) holds together over what is behind it (d generators) -/
def tw_lv (n : Nat) (r w p : Nat → Nat) (c : Nat → Nat → Nat) (d i : Nat) : Prop :=
  ex_h (w i) (r i) (p i) (tw_op n r w p c d) (tw_s n r w (c i) (tw_op n r w p c d) i)
def tw_ok (n : Nat) (r w p : Nat → Nat) (c : Nat → Nat → Nat) (d : Nat) : Prop := ∀ k, k < d → tw_lv n r w p c k (n - (k + 1))
def tw_sz (n : Nat) (r w : Nat → Nat) (d : Nat) : Nat := if d = 0 then 1 else r (n - d) * w (n - d)
section
variable {n : Nat} {r w p : Nat → Nat} {c : Nat → Nat → Nat}
theorem tw_sz_w (h : tw_w n r w) {d : Nat} (hd : d < n) : tw_sz n r w d = w (n - (d + 1)) := by
  unfold tw_sz
  by_cases h0 : d = 0
  · rw [if_pos h0, h0, h.2.2 _ (by omega)]
  · rw [if_neg h0]
    have e := h.2.1 (n - (d + 1)) (by omega)
    rw [show n - (d + 1) + 1 = n - d by omega] at e
    exact e.symm
theorem tw_ok.le {d k : Nat} (h : tw_ok n r w p c d) (hk : k ≤ d) : tw_ok n r w p c k := fun j hj => h j (by omega)
theorem tw_gp (h : tw_w n r w) : ∀ d, d ≤ n → tw_ok n r w p c d → gp_ok (tw_sz n r w d) (tw_op n r w p c d)
  | 0, _, _ => by
    refine ⟨Nat.one_pos, fun _ _ _ _ => Nat.one_pos, fun a ha => ?_, fun a ha => ?_, fun _ _ _ _ _ _ => rfl, fun a _ => ⟨0, Nat.one_pos, rfl⟩⟩
    · have : a < 1 := ha
      show 0 = a
      omega
    · have : a < 1 := ha
      show 0 = a
      omega
  | d + 1, hd, hk => by
    have h1 := ex_gp (hk d (by omega))
    have e : tw_sz n r w (d + 1) = r (n - (d + 1)) * w (n - (d + 1)) := by unfold tw_sz; rw [if_neg (by omega)]
    rw [e]
    exact h1
theorem tw_gp' (h : tw_w n r w) {d : Nat} (hd : d < n) (hk : tw_ok n r w p c d) : gp_ok (w (n - (d + 1))) (tw_op n r w p c d) := by
  rw [← tw_sz_w h hd]
  exact tw_gp h d (by omega) hk
theorem tw_low (h : tw_w n r w) {d a b : Nat} (hd : d < n) (ha : a < w (n - (d + 1))) (hb : b < w (n - (d + 1))) : tw_op n r w p c (d + 1) a b = tw_op n r w p c d a b := by
  show ex_op _ _ _ _ _ a b = _
  have e := ex_pair (r := r (n - (d + 1))) (p := p (n - (d + 1))) (o := tw_op n r w p c d) (s := tw_s n r w (c (n - (d + 1))) (tw_op n r w p c d) (n - (d + 1))) (x := 0) (y := 0) ha hb
  rw [Nat.zero_mul, Nat.zero_add, Nat.zero_add] at e
  have hr := h.1 (n - (d + 1)) (by omega)
  rw [e, if_neg (by omega), Nat.add_zero, Nat.zero_mod, Nat.zero_mul, Nat.zero_add]
  rfl
theorem tw_wd (h : tw_w n r w) : ∀ d, d ≤ n → tw_ok n r w p c d → ∀ j x, n - d ≤ j → j < n → w j ≤ x → x < r j * w j → tw_op n r w p c d (w j) (x - w j) = x
  | 0, _, _, j, x, h1, h2, _, _ => absurd h2 (by omega)
  | d + 1, hd, hk, j, x, h1, h2, h3, h4 => by
    by_cases hj : j = n - (d + 1)
    · have hl := hk d (by omega)
      have g := hl.1
      have ht := h.pos' h2
      obtain ⟨e, a, he, ha, hx⟩ := ex_of ht h4
      subst hj
      have he1 : 1 ≤ e := by
        apply Nat.one_le_iff_ne_zero.mpr
        intro z
        rw [z, Nat.zero_mul, Nat.zero_add] at hx
        omega
      have hx2 : x - w (n - (d + 1)) = (e - 1) * w (n - (d + 1)) + a := by
        have : e * w (n - (d + 1)) = (e - 1) * w (n - (d + 1)) + w (n - (d + 1)) := by
          conv => lhs; rw [show e = (e - 1) + 1 by omega]
          rw [Nat.add_mul, Nat.one_mul]
        omega
      have q := ex_pair (r := r (n - (d + 1))) (p := p (n - (d + 1))) (o := tw_op n r w p c d) (s := tw_s n r w (c (n - (d + 1))) (tw_op n r w p c d) (n - (d + 1))) (x := 1) (y := e - 1) ht ha
      rw [Nat.one_mul, Nat.add_zero (w (n - (d + 1))), ← hx2] at q
      show ex_op _ _ _ _ _ _ _ = x
      rw [q, if_neg (by omega), ex_it0 hl, g.l0 ha, show 1 + (e - 1) = e by omega, Nat.mod_eq_of_lt he]
      exact hx.symm
    · have hwj : w j < w (n - (d + 1)) := h.lt (by omega) h2
      have hx : x < w (n - (d + 1)) := by
        have e := h.2.1 (j - 1) (by omega)
        rw [show j - 1 + 1 = j by omega] at e
        rw [← e] at h4
        by_cases q : j - 1 = n - (d + 1)
        · rw [← q]; exact h4
        · have := h.lt (show n - (d + 1) < j - 1 by omega) (by omega)
          omega
      rw [tw_low h (by omega) hwj (by omega)]
      exact tw_wd h d (by omega) (hk.le (by omega)) j x (by omega) h2 h3 h4
/-- the three questions of a level are what holding together is -/
theorem tw_lv_iff (h : tw_w n r w) {d : Nat} (hd : d < n) (hk : tw_ok n r w p c d) (hp : p (n - (d + 1)) < w (n - (d + 1))) (hc : ∀ j, n - (d + 1) < j → j < n → c (n - (d + 1)) j < w (n - (d + 1))) :
    tw_lv n r w p c d (n - (d + 1)) ↔
      ((∀ x j, x < w (n - (d + 1)) → n - (d + 1) < j → j < n → tw_s n r w (c (n - (d + 1))) (tw_op n r w p c d) (n - (d + 1)) (tw_op n r w p c d x (w j)) = tw_op n r w p c d (tw_s n r w (c (n - (d + 1))) (tw_op n r w p c d) (n - (d + 1)) x) (c (n - (d + 1)) j)) ∧
      tw_s n r w (c (n - (d + 1))) (tw_op n r w p c d) (n - (d + 1)) (p (n - (d + 1))) = p (n - (d + 1)) ∧
      ∀ x, x < w (n - (d + 1)) → tw_op n r w p c d (p (n - (d + 1))) (ex_it (tw_s n r w (c (n - (d + 1))) (tw_op n r w p c d) (n - (d + 1))) (r (n - (d + 1))) x) = tw_op n r w p c d x (p (n - (d + 1)))) := by
  have g := tw_gp' h hd hk
  constructor
  · intro q
    refine ⟨fun x j hx h1 h2 => ?_, q.2.2.2.2.2.1, fun x hx => (q.2.2.2.2.2.2 x hx).symm⟩
    rw [q.2.2.2.2.1 x (w j) hx (h.lt h1 h2), tw_s_letter h g hc h1 h2]
  · rintro ⟨q1, q2, q3⟩
    have hr := h.1 (n - (d + 1)) (by omega)
    refine ⟨g, hp, by omega, fun a _ => tw_s_l g hc a, fun a b ha hb => ?_, q2, fun a ha => (q3 a ha).symm⟩
    exact tw_hom h (by omega) g hc (fun j x h1 h2 h3 h4 => tw_wd h d (by omega) hk j x (by omega) h2 h3 h4) q1 b hb a ha
/-- the inverse, generator by generator -/
def tw_iv (n : Nat) (r w p : Nat → Nat) (c : Nat → Nat → Nat) : Nat → Nat → Nat
  | 0, _ => 0
  | d + 1, a =>
    if 0 < a / w (n - (d + 1)) then
      (r (n - (d + 1)) - a / w (n - (d + 1))) * w (n - (d + 1)) + tw_iv n r w p c d (tw_op n r w p c d (p (n - (d + 1))) (ex_it (tw_s n r w (c (n - (d + 1))) (tw_op n r w p c d) (n - (d + 1))) (r (n - (d + 1)) - a / w (n - (d + 1))) (a % w (n - (d + 1)))))
    else tw_iv n r w p c d (a % w (n - (d + 1)))
theorem tw_iv_ok (h : tw_w n r w) : ∀ d, d ≤ n → tw_ok n r w p c d → ∀ a, a < tw_sz n r w d → tw_iv n r w p c d a < tw_sz n r w d ∧ tw_op n r w p c d a (tw_iv n r w p c d a) = 0
  | 0, _, _, a, ha => ⟨Nat.one_pos, rfl⟩
  | d + 1, hd, hk, a, ha => by
    have hl := hk d (by omega)
    have g := hl.1
    have ht := g.pos
    have hz : tw_sz n r w (d + 1) = r (n - (d + 1)) * w (n - (d + 1)) := by unfold tw_sz; rw [if_neg (by omega)]
    rw [hz] at ha ⊢
    have hw := tw_sz_w h (show d < n by omega)
    have ih := tw_iv_ok h d (by omega) (hk.le (by omega))
    rw [hw] at ih
    obtain ⟨e, x, he, hx, rfl⟩ := ex_of ht ha
    unfold tw_iv
    rw [(ex_d hx).1, (ex_d hx).2]
    by_cases h0 : 0 < e
    · rw [if_pos h0]
      have hy := g.lt hl.2.1 (ex_itl hl hx (r (n - (d + 1)) - e))
      obtain ⟨i1, i2⟩ := ih _ hy
      refine ⟨ex_lt (by omega) i1, ?_⟩
      show ex_op _ _ _ _ _ _ _ = 0
      rw [ex_pair hx i1, if_pos (by omega), i2, show e + (r (n - (d + 1)) - e) = r (n - (d + 1)) by omega, Nat.mod_self, Nat.zero_mul]
    · rw [if_neg h0]
      obtain ⟨i1, i2⟩ := ih _ hx
      have e0 : e = 0 := by omega
      subst e0
      have hr := h.1 (n - (d + 1)) (by omega)
      have hb : tw_iv n r w p c d x < r (n - (d + 1)) * w (n - (d + 1)) := by
        have := ex_lt (show 0 < r (n - (d + 1)) by omega) i1
        omega
      refine ⟨hb, ?_⟩
      rw [Nat.zero_mul, Nat.zero_add, tw_low h (by omega) hx i1]
      exact i2
end
