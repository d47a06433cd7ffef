/-! The relations: orders r, weights w, powers p, conjugates c of n generators; from the last one to the first. -/
def tw_w (n : Nat) (r w : Nat → Nat) : Prop := (∀ i, i < n → 2 ≤ r i) ∧ (∀ i, i + 1 < n → w i = r (i + 1) * w (i + 1)) ∧ (∀ i, i + 1 = n → w i = 1)
theorem tw_w.pos {n : Nat} {r w : Nat → Nat} (h : tw_w n r w) : ∀ d i, i < n → n = i + d + 1 → 0 < w i
  | 0, i, _, e => by rw [h.2.2 i (by omega)]; exact Nat.one_pos
  | d + 1, i, _, e => by
    rw [h.2.1 i (by omega)]
    exact Nat.mul_pos (by have := h.1 (i + 1) (by omega); omega) (h.pos d (i + 1) (by omega) (by omega))
theorem tw_w.pos' {n : Nat} {r w : Nat → Nat} (h : tw_w n r w) {i : Nat} (hi : i < n) : 0 < w i := h.pos (n - i - 1) i hi (by omega)
/-- a later generator's whole size divides an earlier weight -/
theorem tw_w.dvd {n : Nat} {r w : Nat → Nat} (h : tw_w n r w) : ∀ d j, j + d + 1 < n → ∃ m, w j = m * (r (j + d + 1) * w (j + d + 1))
  | 0, j, hj => ⟨1, by rw [Nat.one_mul]; exact h.2.1 j hj⟩
  | d + 1, j, hj => by
    obtain ⟨m, e⟩ := h.dvd d (j + 1) (by omega)
    refine ⟨r (j + 1) * m, ?_⟩
    rw [h.2.1 j (by omega), e, Nat.mul_assoc, show j + 1 + d + 1 = j + (d + 1) + 1 by omega]
theorem tw_w.dvd' {n : Nat} {r w : Nat → Nat} (h : tw_w n r w) {j k : Nat} (hjk : j < k) (hk : k < n) : ∃ m, w j = m * (r k * w k) := by
  have := h.dvd (k - j - 1) j (by omega)
  rwa [show j + (k - j - 1) + 1 = k by omega] at this
theorem tw_w.lt {n : Nat} {r w : Nat → Nat} (h : tw_w n r w) {j k : Nat} (hjk : j < k) (hk : k < n) : w k < w j := by
  obtain ⟨m, e⟩ := h.dvd' hjk hk
  have h0 := h.pos' hk
  have h1 := h.pos' (show j < n by omega)
  have h2 := h.1 k hk
  rw [e]
  have hm : 1 ≤ m := by
    apply Nat.one_le_iff_ne_zero.mpr
    intro z
    rw [z, Nat.zero_mul] at e
    omega
  have h3 : 2 * w k ≤ r k * w k := Nat.mul_le_mul_right _ h2
  have h4 : 1 * (r k * w k) ≤ m * (r k * w k) := Nat.mul_le_mul_right _ hm
  omega
/-- the first letter of a word behind g(i) -/
theorem tw_w.lead {n : Nat} {r w : Nat → Nat} (h : tw_w n r w) {i x : Nat} (hi : i < n) (hx : x < w i) (h0 : 0 < x) : ∃ j, i < j ∧ j < n ∧ w j ≤ x ∧ x < r j * w j ∧ ∀ k, i < k → k < j → x < w k := by
  have hin : i + 1 < n := by
    apply Nat.lt_of_not_le
    intro z
    have := h.2.2 i (by omega)
    omega
  have hex : ∃ j, i < j ∧ j < n ∧ w j ≤ x := ⟨n - 1, by omega, by omega, by rw [h.2.2 (n - 1) (by omega)]; exact h0⟩
  obtain ⟨j, ⟨h1, h2, h3⟩, h4⟩ := pk_least _ hex
  have h5 : ∀ k, i < k → k < j → x < w k := fun k a b => Nat.lt_of_not_le fun z => h4 k b ⟨a, by omega, z⟩
  refine ⟨j, h1, h2, h3, ?_, h5⟩
  have e := h.2.1 (j - 1) (by omega)
  rw [show j - 1 + 1 = j by omega] at e
  rw [← e]
  by_cases hj : j = i + 1
  · subst hj
    exact hx
  · exact h5 (j - 1) (by omega) (by omega)
/-- x, then y e times -/
def tw_rp (o : Nat → Nat → Nat) (x y : Nat) : Nat → Nat
  | 0 => x
  | e + 1 => o (tw_rp o x y e) y
/-- the letters j0, j0 + 1, .. (k of them) of a, each as q says, behind st -/
def tw_sg (o : Nat → Nat → Nat) (r w q : Nat → Nat) (st a j0 : Nat) : Nat → Nat
  | 0 => st
  | k + 1 => tw_rp o (tw_sg o r w q st a j0 k) (q (j0 + k)) (a / w (j0 + k) % r (j0 + k))
section
variable {t : Nat} {o : Nat → Nat → Nat} {r w q : Nat → Nat}
theorem tw_rp_l (g : gp_ok t o) {x y : Nat} (hx : x < t) (hy : y < t) : ∀ e, tw_rp o x y e < t
  | 0 => hx
  | e + 1 => g.lt (tw_rp_l g hx hy e) hy
theorem tw_rp_o (g : gp_ok t o) {u x y : Nat} (hu : u < t) (hx : x < t) (hy : y < t) : ∀ e, tw_rp o (o u x) y e = o u (tw_rp o x y e)
  | 0 => rfl
  | e + 1 => by
    show o (tw_rp o (o u x) y e) y = o u (o (tw_rp o x y e) y)
    rw [tw_rp_o g hu hx hy e, g.as hu (tw_rp_l g hx hy e) hy]
theorem tw_rp_first (g : gp_ok t o) {x y : Nat} (hx : x < t) (hy : y < t) : ∀ e, tw_rp o x y (e + 1) = tw_rp o (o x y) y e
  | 0 => rfl
  | e + 1 => by
    show o (tw_rp o x y (e + 1)) y = o (tw_rp o (o x y) y e) y
    rw [tw_rp_first g hx hy e]
theorem tw_sg_l (g : gp_ok t o) {st a j0 : Nat} (hs : st < t) : ∀ k, (∀ j, j0 ≤ j → j < j0 + k → q j < t) → tw_sg o r w q st a j0 k < t
  | 0, _ => hs
  | k + 1, h => tw_rp_l g (tw_sg_l g hs k (fun j a b => h j a (by omega))) (h _ (by omega) (by omega)) _
theorem tw_sg_o (g : gp_ok t o) {u st a j0 : Nat} (hu : u < t) (hs : st < t) : ∀ k, (∀ j, j0 ≤ j → j < j0 + k → q j < t) → tw_sg o r w q (o u st) a j0 k = o u (tw_sg o r w q st a j0 k)
  | 0, _ => rfl
  | k + 1, h => by
    have h' : ∀ j, j0 ≤ j → j < j0 + k → q j < t := fun j a b => h j a (by omega)
    show tw_rp o (tw_sg o r w q (o u st) a j0 k) _ _ = o u (tw_rp o (tw_sg o r w q st a j0 k) _ _)
    rw [tw_sg_o g hu hs k h', tw_rp_o g hu (tw_sg_l g hs k h') (h _ (by omega) (by omega))]
theorem tw_sg_add {st a j0 k1 : Nat} : ∀ k2, tw_sg o r w q st a j0 (k1 + k2) = tw_sg o r w q (tw_sg o r w q st a j0 k1) a (j0 + k1) k2
  | 0 => rfl
  | k2 + 1 => by
    show tw_rp o (tw_sg o r w q st a j0 (k1 + k2)) (q (j0 + (k1 + k2))) (a / w (j0 + (k1 + k2)) % r (j0 + (k1 + k2))) = tw_rp o (tw_sg o r w q (tw_sg o r w q st a j0 k1) a (j0 + k1) k2) (q (j0 + k1 + k2)) (a / w (j0 + k1 + k2) % r (j0 + k1 + k2))
    rw [tw_sg_add k2, Nat.add_assoc]
theorem tw_sg_none {st a j0 : Nat} : ∀ k, (∀ j, j0 ≤ j → j < j0 + k → a / w j % r j = 0) → tw_sg o r w q st a j0 k = st
  | 0, _ => rfl
  | k + 1, h => by
    show tw_rp o (tw_sg o r w q st a j0 k) _ _ = st
    rw [h (j0 + k) (by omega) (by omega), tw_sg_none k (fun j a b => h j a (by omega))]
    rfl
theorem tw_sg_same {st a b j0 : Nat} : ∀ k, (∀ j, j0 ≤ j → j < j0 + k → a / w j % r j = b / w j % r j) → tw_sg o r w q st a j0 k = tw_sg o r w q st b j0 k
  | 0, _ => rfl
  | k + 1, h => by
    show tw_rp o (tw_sg o r w q st a j0 k) _ _ = tw_rp o (tw_sg o r w q st b j0 k) _ _
    rw [h (j0 + k) (by omega) (by omega), tw_sg_same k (fun j a b => h j a (by omega))]
end
/-- what g(i) turns a into -/
def tw_s (n : Nat) (r w : Nat → Nat) (q : Nat → Nat) (o : Nat → Nat → Nat) (i a : Nat) : Nat := tw_sg o r w q 0 a (i + 1) (n - (i + 1))
section
variable {n : Nat} {r w q : Nat → Nat} {o : Nat → Nat → Nat} {i : Nat}
theorem tw_s_l (g : gp_ok (w i) o) (hq : ∀ j, i < j → j < n → q j < w i) (a : Nat) : tw_s n r w q o i a < w i :=
  tw_sg_l g g.pos _ (fun j h1 h2 => hq j (by omega) (by omega))
theorem tw_s_0 (h : tw_w n r w) : tw_s n r w q o i 0 = 0 :=
  tw_sg_none _ (fun j _ _ => by rw [Nat.zero_div, Nat.zero_mod])
/-- the first letter, and then the rest -/
theorem tw_s_lead (h : tw_w n r w) (g : gp_ok (w i) o) (hq : ∀ j, i < j → j < n → q j < w i) {x j : Nat} (h1 : i < j) (h2 : j < n) (h3 : w j ≤ x) (h4 : x < r j * w j) (h5 : ∀ k, i < k → k < j → x < w k) :
    tw_s n r w q o i x = o (q j) (tw_s n r w q o i (x - w j)) := by
  have hwj := h.pos' h2
  unfold tw_s
  have hk : n - (i + 1) = (j - (i + 1)) + (1 + (n - (j + 1))) := by omega
  rw [hk, tw_sg_add, tw_sg_add (a := x - w j)]
  rw [tw_sg_none (st := 0) (a := x) (j0 := i + 1) (j - (i + 1)) (fun k a b => by rw [Nat.div_eq_of_lt (h5 k (by omega) (by omega)), Nat.zero_mod])]
  rw [tw_sg_none (st := 0) (a := x - w j) (j0 := i + 1) (j - (i + 1)) (fun k a b => by rw [Nat.div_eq_of_lt (by have := h5 k (by omega) (by omega); omega), Nat.zero_mod])]
  rw [tw_sg_add, tw_sg_add (a := x - w j)]
  rw [show i + 1 + (j - (i + 1)) = j by omega]
  have hqj : q j < w i := hq j h1 h2
  have e1 : x / w j % r j = (x - w j) / w j % r j + 1 := by
    have a1 : x / w j = (x - w j) / w j + 1 := by
      rw [Nat.div_eq x (w j), if_pos ⟨hwj, h3⟩]
    have a2 : x / w j < r j := (Nat.div_lt_iff_lt_mul hwj).mpr h4
    rw [Nat.mod_eq_of_lt a2, Nat.mod_eq_of_lt (by omega), a1]
  have e2 : tw_sg o r w q 0 x j 1 = o (q j) (tw_sg o r w q 0 (x - w j) j 1) := by
    show tw_rp o 0 (q (j + 0)) (x / w (j + 0) % r (j + 0)) = o (q j) (tw_rp o 0 (q (j + 0)) ((x - w j) / w (j + 0) % r (j + 0)))
    rw [Nat.add_zero, e1, tw_rp_first g g.pos hqj, ← tw_rp_o g hqj g.pos hqj, g.l0 hqj, g.r0 hqj]
  rw [e2]
  have hs : tw_sg o r w q 0 (x - w j) j 1 < w i := tw_sg_l g g.pos _ (fun k a b => hq k (by omega) (by omega))
  rw [tw_sg_o g hqj hs _ (fun k a b => hq k (by omega) (by omega))]
  congr 1
  refine tw_sg_same _ (fun k a b => ?_)
  obtain ⟨m, e⟩ := h.dvd' (show j < k by omega) (show k < n by omega)
  have hwk := h.pos' (show k < n by omega)
  have a1 : x = (x - w j) + m * r k * w k := by rw [Nat.mul_assoc, ← e]; omega
  have a2 : x / w k = (x - w j) / w k + m * r k := by
    conv => lhs; rw [a1]
    rw [Nat.add_mul_div_right _ _ hwk]
  rw [a2, Nat.add_mul_mod_self_right]
theorem tw_s_letter (h : tw_w n r w) (g : gp_ok (w i) o) (hq : ∀ j, i < j → j < n → q j < w i) {j : Nat} (h1 : i < j) (h2 : j < n) : tw_s n r w q o i (w j) = q j := by
  have hwj := h.pos' h2
  have h3 : w j < r j * w j := by
    have : 2 * w j ≤ r j * w j := Nat.mul_le_mul_right _ (h.1 j h2)
    omega
  rw [tw_s_lead h g hq h1 h2 (Nat.le_refl _) h3 (fun k a b => h.lt b h2), Nat.sub_self, tw_s_0 h, g.r0 (hq j h1 h2)]
/-- products with one letter more are enough -/
theorem tw_hom (h : tw_w n r w) (hi : i < n) (g : gp_ok (w i) o) (hq : ∀ j, i < j → j < n → q j < w i) (hwd : ∀ j x, i < j → j < n → w j ≤ x → x < r j * w j → o (w j) (x - w j) = x)
    (hl : ∀ x j, x < w i → i < j → j < n → tw_s n r w q o i (o x (w j)) = o (tw_s n r w q o i x) (q j)) :
    ∀ b, b < w i → ∀ a, a < w i → tw_s n r w q o i (o a b) = o (tw_s n r w q o i a) (tw_s n r w q o i b) := by
  intro b
  induction b using Nat.strongRecOn with
  | ind b ih =>
    intro hb a ha
    by_cases h0 : b = 0
    · subst h0
      rw [g.r0 ha, tw_s_0 h, g.r0 (tw_s_l g hq a)]
    · obtain ⟨j, h1, h2, h3, h4, h5⟩ := h.lead hi hb (by omega)
      have hwj := h.pos' h2
      have hwl : w j < w i := h.lt h1 h2
      have hr : b - w j < w i := by omega
      have e := hwd j b h1 h2 h3 h4
      rw [tw_s_lead h g hq h1 h2 h3 h4 h5]
      conv => lhs; rw [← e]
      rw [← g.as ha hwl hr, ih (b - w j) (by omega) hr _ (g.lt ha hwl), hl a j ha h1 h2, g.as (tw_s_l g hq a) (hq j h1 h2) (tw_s_l g hq _)]
end
