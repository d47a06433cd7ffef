/-! A group of t numbers, one more generator before it: r times it is p, it turns x into s x. -/
theorem ex_d {t e x : Nat} (h : x < t) : (e * t + x) / t = e ∧ (e * t + x) % t = x := by
  have ht : 0 < t := by omega
  constructor
  · rw [Nat.mul_comm, Nat.mul_add_div ht, Nat.div_eq_of_lt h, Nat.add_zero]
  · rw [Nat.mul_comm, Nat.mul_add_mod, Nat.mod_eq_of_lt h]
theorem ex_lt {t r e x : Nat} (he : e < r) (hx : x < t) : e * t + x < r * t := by
  have h1 : (e + 1) * t ≤ r * t := Nat.mul_le_mul_right t he
  rw [Nat.add_mul, Nat.one_mul] at h1
  omega
theorem ex_of {t r u : Nat} (ht : 0 < t) (hu : u < r * t) : ∃ x a, x < r ∧ a < t ∧ u = x * t + a :=
  ⟨u / t, u % t, (Nat.div_lt_iff_lt_mul ht).mpr hu, Nat.mod_lt _ ht, by rw [Nat.mul_comm]; exact (Nat.div_add_mod u t).symm⟩
def ex_it (s : Nat → Nat) : Nat → Nat → Nat
  | 0, x => x
  | k + 1, x => s (ex_it s k x)
theorem ex_it_add (s : Nat → Nat) (k x : Nat) : ∀ j, ex_it s (j + k) x = ex_it s j (ex_it s k x)
  | 0 => by rw [Nat.zero_add]; rfl
  | j + 1 => by
    rw [show j + 1 + k = (j + k) + 1 by omega]
    show s (ex_it s (j + k) x) = s (ex_it s j (ex_it s k x))
    rw [ex_it_add s k x j]
def ex_op (t r p : Nat) (o : Nat → Nat → Nat) (s : Nat → Nat) (u v : Nat) : Nat :=
  ((u / t + v / t) % r) * t + o (if r ≤ u / t + v / t then o p (ex_it s (v / t) (u % t)) else ex_it s (v / t) (u % t)) (v % t)
def ex_h (t r p : Nat) (o : Nat → Nat → Nat) (s : Nat → Nat) : Prop :=
  gp_ok t o ∧ p < t ∧ 0 < r ∧ (∀ a, a < t → s a < t) ∧ (∀ a b, a < t → b < t → s (o a b) = o (s a) (s b)) ∧ s p = p ∧ ∀ a, a < t → o a p = o p (ex_it s r a)
section
variable {t r p : Nat} {o : Nat → Nat → Nat} {s : Nat → Nat}
theorem ex_pair {x y a b : Nat} (ha : a < t) (hb : b < t) : ex_op t r p o s (x * t + a) (y * t + b) = ((x + y) % r) * t + o (if r ≤ x + y then o p (ex_it s y a) else ex_it s y a) b := by
  unfold ex_op
  rw [(ex_d ha).1, (ex_d ha).2, (ex_d hb).1, (ex_d hb).2]
theorem ex_itl (h : ex_h t r p o s) {a : Nat} (ha : a < t) : ∀ k, ex_it s k a < t
  | 0 => ha
  | k + 1 => h.2.2.2.1 _ (ex_itl h ha k)
theorem ex_ito (h : ex_h t r p o s) {a b : Nat} (ha : a < t) (hb : b < t) : ∀ k, ex_it s k (o a b) = o (ex_it s k a) (ex_it s k b)
  | 0 => rfl
  | k + 1 => by
    show s (ex_it s k (o a b)) = o (s (ex_it s k a)) (s (ex_it s k b))
    rw [ex_ito h ha hb k, h.2.2.2.2.1 _ _ (ex_itl h ha k) (ex_itl h hb k)]
theorem ex_itp (h : ex_h t r p o s) : ∀ k, ex_it s k p = p
  | 0 => rfl
  | k + 1 => by
    show s (ex_it s k p) = p
    rw [ex_itp h k, h.2.2.2.2.2.1]
theorem ex_it0 (h : ex_h t r p o s) (k : Nat) : ex_it s k 0 = 0 := by
  have g := h.1
  have h1 := ex_ito h g.pos g.pos k
  rw [g.l0 g.pos] at h1
  have hl := ex_itl h g.pos k
  exact (g.cl hl g.pos hl ((g.r0 hl).trans h1)).symm
theorem ex_pass (h : ex_h t r p o s) {a k : Nat} (ha : a < t) (hk : r ≤ k) : o (ex_it s (k - r) a) p = o p (ex_it s k a) := by
  rw [h.2.2.2.2.2.2 _ (ex_itl h ha _), ← ex_it_add, show r + (k - r) = k by omega]
theorem ex_lt2 (h : ex_h t r p o s) {x y a b : Nat} (ha : a < t) (hb : b < t) : ex_op t r p o s (x * t + a) (y * t + b) < r * t := by
  have g := h.1
  rw [ex_pair ha hb]
  refine ex_lt (Nat.mod_lt _ h.2.2.1) (g.lt ?_ hb)
  split
  · exact g.lt h.2.1 (ex_itl h ha _)
  · exact ex_itl h ha _
theorem ex_as (h : ex_h t r p o s) {x y z a b c : Nat} (hx : x < r) (hy : y < r) (hz : z < r) (ha : a < t) (hb : b < t) (hc : c < t) :
    ex_op t r p o s (ex_op t r p o s (x * t + a) (y * t + b)) (z * t + c) = ex_op t r p o s (x * t + a) (ex_op t r p o s (y * t + b) (z * t + c)) := by
  have g := h.1
  have hp := h.2.1
  have la : ∀ k, ex_it s k a < t := ex_itl h ha
  have lb : ∀ k, ex_it s k b < t := ex_itl h hb
  rw [ex_pair (r := r) (p := p) (o := o) (s := s) ha hb, ex_pair (r := r) (p := p) (o := o) (s := s) hb hc]
  have e1 : (x + y) % r = if r ≤ x + y then x + y - r else x + y := by
    split
    · rw [Nat.mod_eq_sub_mod (by omega), Nat.mod_eq_of_lt (by omega)]
    · exact Nat.mod_eq_of_lt (by omega)
  have e2 : (y + z) % r = if r ≤ y + z then y + z - r else y + z := by
    split
    · rw [Nat.mod_eq_sub_mod (by omega), Nat.mod_eq_of_lt (by omega)]
    · exact Nat.mod_eq_of_lt (by omega)
  by_cases h1 : r ≤ x + y <;> by_cases h2 : r ≤ y + z
  · rw [if_pos h1] at e1
    rw [if_pos h2] at e2
    rw [if_pos h1, if_pos h2, e1, e2]
    rw [ex_pair (g.lt (g.lt hp (la _)) hb) hc, ex_pair ha (g.lt (g.lt hp (lb _)) hc)]
    have ee : (x + y - r + z) % r = (x + (y + z - r)) % r := by congr 1; omega
    rw [ee]
    congr 1
    have hq := ex_pass h ha h2
    rw [ex_ito h (g.lt hp (la _)) hb, ex_ito h hp (la _), ex_itp h, ← ex_it_add, Nat.add_comm z y]
    have lq := la (y + z)
    have lw := la (y + z - r)
    have lz := lb z
    by_cases h3 : r ≤ x + y - r + z
    · rw [if_pos h3, if_pos (show r ≤ x + (y + z - r) by omega)]
      rw [← hq, g.as lw hp lz, g.as hp lw (g.lt (g.lt hp lz) hc), g.as hp (g.lt lw (g.lt hp lz)) hc, g.as lw (g.lt hp lz) hc]
    · rw [if_neg h3, if_neg (show ¬ r ≤ x + (y + z - r) by omega)]
      rw [← hq, g.as lw hp lz, g.as lw (g.lt hp lz) hc]
  · rw [if_pos h1] at e1
    rw [if_neg h2] at e2
    rw [if_pos h1, if_neg h2, e1, e2]
    rw [ex_pair (g.lt (g.lt hp (la _)) hb) hc, ex_pair ha (g.lt (lb _) hc)]
    have ee : (x + y - r + z) % r = (x + (y + z)) % r := by
      rw [show x + (y + z) = (x + y - r + z) + r by omega, Nat.add_mod_right]
    rw [ee]
    congr 1
    rw [if_neg (show ¬ r ≤ x + y - r + z by omega), if_pos (show r ≤ x + (y + z) by omega)]
    rw [ex_ito h (g.lt hp (la _)) hb, ex_ito h hp (la _), ex_itp h, ← ex_it_add, Nat.add_comm z y]
    rw [g.as (g.lt hp (la _)) (lb _) hc]
  · rw [if_neg h1] at e1
    rw [if_pos h2] at e2
    rw [if_neg h1, if_pos h2, e1, e2]
    rw [ex_pair (g.lt (la _) hb) hc, ex_pair ha (g.lt (g.lt hp (lb _)) hc)]
    have ee : (x + y + z) % r = (x + (y + z - r)) % r := by
      rw [show x + y + z = (x + (y + z - r)) + r by omega, Nat.add_mod_right]
    rw [ee]
    congr 1
    have hq := ex_pass h ha h2
    rw [if_pos (show r ≤ x + y + z by omega), if_neg (show ¬ r ≤ x + (y + z - r) by omega)]
    rw [ex_ito h (la _) hb, ← ex_it_add, Nat.add_comm z y]
    have lq := la (y + z)
    have lw := la (y + z - r)
    have lz := lb z
    rw [← g.as hp lq lz, ← hq, g.as lw hp lz, g.as lw (g.lt hp lz) hc]
  · rw [if_neg h1] at e1
    rw [if_neg h2] at e2
    rw [if_neg h1, if_neg h2, e1, e2]
    rw [ex_pair (g.lt (la _) hb) hc, ex_pair ha (g.lt (lb _) hc)]
    rw [Nat.add_assoc x y z]
    congr 1
    rw [ex_ito h (la _) hb, ← ex_it_add, Nat.add_comm z y]
    have lq := la (y + z)
    have lz := lb z
    by_cases h3 : r ≤ x + (y + z)
    · rw [if_pos h3, if_pos h3, ← g.as hp lq lz, g.as (g.lt hp lq) lz hc]
    · rw [if_neg h3, if_neg h3, g.as lq lz hc]
theorem ex_gp (h : ex_h t r p o s) : gp_ok (r * t) (ex_op t r p o s) := by
  have g := h.1
  have ht := g.pos
  have hr := h.2.2.1
  refine ⟨Nat.mul_pos hr ht, fun u v hu hv => ?_, fun u hu => ?_, fun u hu => ?_, fun u v w hu hv hw => ?_, fun u hu => ?_⟩
  · obtain ⟨x, a, hx, ha, rfl⟩ := ex_of ht hu
    obtain ⟨y, b, hy, hb, rfl⟩ := ex_of ht hv
    exact ex_lt2 h ha hb
  · obtain ⟨x, a, hx, ha, rfl⟩ := ex_of ht hu
    have e := ex_pair (r := r) (p := p) (o := o) (s := s) (x := 0) (y := x) ht ha
    rw [Nat.zero_mul, Nat.zero_add, Nat.zero_add] at e
    rw [e, if_neg (by omega), ex_it0 h, g.l0 ha, Nat.mod_eq_of_lt hx]
  · obtain ⟨x, a, hx, ha, rfl⟩ := ex_of ht hu
    have e := ex_pair (r := r) (p := p) (o := o) (s := s) (x := x) (y := 0) ha ht
    rw [Nat.zero_mul, Nat.add_zero, Nat.add_zero] at e
    rw [e, if_neg (by omega), Nat.mod_eq_of_lt hx]
    show x * t + o a 0 = _
    rw [g.r0 ha]
  · obtain ⟨x, a, hx, ha, rfl⟩ := ex_of ht hu
    obtain ⟨y, b, hy, hb, rfl⟩ := ex_of ht hv
    obtain ⟨z, c, hz, hc, rfl⟩ := ex_of ht hw
    exact ex_as h hx hy hz ha hb hc
  · obtain ⟨x, a, hx, ha, rfl⟩ := ex_of ht hu
    by_cases h0 : x = 0
    · subst h0
      refine ⟨0 * t + gp_iv t o a, ex_lt hr (g.ivl ha), ?_⟩
      rw [ex_pair ha (g.ivl ha), if_neg (by omega)]
      show (0 + 0) % r * t + o a _ = 0
      rw [g.riv ha, Nat.zero_mod, Nat.zero_mul]
    · have hl := g.lt h.2.1 (ex_itl h ha (r - x))
      refine ⟨(r - x) * t + gp_iv t o (o p (ex_it s (r - x) a)), ex_lt (by omega) (g.ivl hl), ?_⟩
      rw [ex_pair ha (g.ivl hl), if_pos (by omega), g.riv hl, show x + (r - x) = r by omega, Nat.mod_self, Nat.zero_mul]
end
