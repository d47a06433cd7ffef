/-! The digits of the constructor's number; weights; what the constructors have made so far. -/
def dg_s (x : Int32) : Nat → Int
  | 0 => x.toInt
  | k + 1 => dg_s x k / 16
def dg_r (x : Int32) (k : Nat) : Nat := (dg_s x k % 16).toNat
def dg_p (d : Nat) : Prop := d = 2 ∨ d = 3 ∨ d = 5 ∨ d = 7 ∨ d = 11 ∨ d = 13
def dg_q (x : Int32) : Nat → Nat
  | 0 => 1
  | k + 1 => dg_q x k * dg_r x k
def dg_t (x : Int32) (k : Nat) : Prop := dg_p (dg_r x k) ∧ dg_q x (k + 1) ≤ 128
/-- n digits are taken -/
def dg_g (x : Int32) (n : Nat) : Prop := n ≤ 7 ∧ (∀ k, k < n → dg_t x k) ∧ (n = 7 ∨ ¬ dg_t x n)
def dg_f (x : Int32) (n : Nat) : Nat → Nat := fun j => if j < n then dg_r x j else 0
theorem dg_u {x : Int32} {n m : Nat} (h : dg_g x n) (g : dg_g x m) : n = m := by
  have a1 : ∀ {n m : Nat}, dg_g x n → dg_g x m → n < m → False := fun {n m} h g q => by
    have h0 := g.1
    rcases h.2.2 with e | e
    · omega
    · exact e (g.2.1 n q)
  rcases Nat.lt_trichotomy n m with q | q | q
  · exact (a1 h g q).elim
  · exact q
  · exact (a1 g h q).elim
theorem dg_r16 (x : Int32) (k : Nat) : dg_r x k < 16 := by
  unfold dg_r
  omega
theorem dg_up (x : Int32) (k : Nat) : va_up (dg_f x k) k (dg_r x k) = dg_f x (k + 1) := by
  funext j
  unfold va_up dg_f
  by_cases e : j = k
  · rw [if_pos e, if_pos (by omega), e]
  · rw [if_neg e]
    by_cases h : j < k
    · rw [if_pos h, if_pos (by omega)]
    · rw [if_neg h, if_neg (by omega)]
theorem dg_f0 (x : Int32) : (fun _ => 0) = dg_f x 0 := by
  funext j
  exact (if_neg (Nat.not_lt_zero _)).symm
theorem dg_cut (x : Int32) (n : Nat) : (fun j => if j < n then dg_f x n j else 0) = dg_f x n := by
  funext j
  unfold dg_f
  by_cases h : j < n
  · rw [if_pos h, if_pos h]
  · rw [if_neg h, if_neg h]
theorem dg_nat (x : Int32) : (x.toInt = (x.toBitVec.toNat : Int) ∧ x.toBitVec.toNat < 2147483648) ∨ (x.toInt = (x.toBitVec.toNat : Int) - 4294967296 ∧ x.toBitVec.toNat < 4294967296) := by
  have h1 : x.toInt = x.toBitVec.toInt := rfl
  have h2 := BitVec.toInt_eq_toNat_cond x.toBitVec
  have h3 := x.toBitVec.isLt
  rw [h1, h2]
  split
  · exact Or.inl ⟨rfl, by omega⟩
  · refine Or.inr ⟨by omega, by omega⟩
/-- a digit by the unsigned shift -/
theorem dg_ush (x : Int32) {k : Nat} (hk : k < 7) : (x.toUInt32 >>> ((nI (4 * k)).toUInt32 &&& Int32.toUInt32 31)).toInt32 &&& nI 15 = nI (dg_r x k) := by
  have hs : (((nI (4 * k)).toUInt32 &&& Int32.toUInt32 31).toBitVec % 32).toNat = 4 * k := by
    rcases (show k = 0 ∨ k = 1 ∨ k = 2 ∨ k = 3 ∨ k = 4 ∨ k = 5 ∨ k = 6 by omega) with e | e | e | e | e | e | e <;> subst e <;> decide +kernel
  rw [pk_and _ 4 (by decide +kernel), pk_ushr x _ (4 * k) hs]
  refine congrArg nI ?_
  unfold dg_r
  have hx := dg_nat x
  generalize x.toBitVec.toNat = t at hx ⊢
  rcases (show k = 0 ∨ k = 1 ∨ k = 2 ∨ k = 3 ∨ k = 4 ∨ k = 5 ∨ k = 6 by omega) with e | e | e | e | e | e | e <;> subst e <;> simp only [dg_s] <;> omega
/-- a digit of what the signed shifts have left -/
theorem dg_and {x y : Int32} {k : Nat} (hy : y.toInt = dg_s x k) : y &&& nI 15 = nI (dg_r x k) := by
  rw [pk_and _ 4 (by decide +kernel)]
  refine congrArg nI ?_
  unfold dg_r
  rw [← hy]
  have hx := dg_nat y
  generalize y.toBitVec.toNat = t at hx ⊢
  omega
theorem dg_shr {x y : Int32} {k : Nat} (hy : y.toInt = dg_s x k) : (y >>> (nI 4 &&& 31)).toInt = dg_s x (k + 1) := by
  rw [pk_shr y _ 4 (by decide +kernel), hy, Int.shiftRight_eq_div_pow]
  rfl
/-- the product of the last t -/
def wt_t (r : Nat → Nat) (n : Nat) : Nat → Nat
  | 0 => 1
  | t + 1 => wt_t r n t * r (n - 1 - t)
theorem wt_q {x : Int32} {n : Nat} {r : Nat → Nat} (hr : ∀ i, i < n → r i = dg_r x i) : ∀ t, t ≤ n → wt_t r n t * dg_q x (n - t) = dg_q x n
  | 0, _ => by
    show 1 * dg_q x n = _
    exact Nat.one_mul _
  | t + 1, h => by
    have h1 := wt_q hr t (by omega)
    have e : n - t = (n - (t + 1)) + 1 := by omega
    rw [e] at h1
    show wt_t r n t * r (n - 1 - t) * dg_q x (n - (t + 1)) = _
    rw [← h1]
    show _ = wt_t r n t * (dg_q x (n - (t + 1)) * dg_r x (n - (t + 1)))
    rw [hr _ (by omega), show n - 1 - t = n - (t + 1) by omega, Nat.mul_assoc, Nat.mul_comm (dg_r x _)]
theorem dg_q1 {x : Int32} {n : Nat} (h : ∀ k, k < n → dg_t x k) : ∀ k, k ≤ n → 1 ≤ dg_q x k
  | 0, _ => Nat.le_refl _
  | k + 1, hk => by
    have h1 := dg_q1 h k (by omega)
    have h2 : 2 ≤ dg_r x k := by
      have := (h k (by omega)).1
      unfold dg_p at this
      omega
    show 1 ≤ dg_q x k * dg_r x k
    exact Nat.le_trans (show 1 ≤ 1 * 2 by omega) (Nat.mul_le_mul h1 h2)
theorem dg_le {x : Int32} {n : Nat} (h : dg_g x n) : dg_q x n ≤ 128 := by
  cases n with
  | zero => show 1 ≤ 128; omega
  | succ n => exact (h.2.1 n (by omega)).2
theorem wt_le {x : Int32} {n t : Nat} {r : Nat → Nat} (h : dg_g x n) (hr : ∀ i, i < n → r i = dg_r x i) (ht : t ≤ n) : wt_t r n t ≤ 128 := by
  have h1 := wt_q hr t ht
  have h2 := dg_q1 h.2.1 (n - t) (by omega)
  have h3 := dg_le h
  have h4 : wt_t r n t * 1 ≤ wt_t r n t * dg_q x (n - t) := Nat.mul_le_mul_left _ h2
  omega
theorem wt_n {x : Int32} {n : Nat} {r : Nat → Nat} (hr : ∀ i, i < n → r i = dg_r x i) : wt_t r n n = dg_q x n := by
  have h1 := wt_q hr n (Nat.le_refl _)
  rw [Nat.sub_self] at h1
  exact (Nat.mul_one _).symm.trans h1
/-- the weights make a tower -/
theorem wt_w {n : Nat} {r w : Nat → Nat} (h2 : ∀ i, i < n → 2 ≤ r i) (hw : ∀ i, i < n → w i = wt_t r n (n - 1 - i)) : tw_w n r w ∧ wt_t r n n = tw_sz n r w n ∧ ∀ i, i < n → r i * w i = wt_t r n (n - i) := by
  have h3 : ∀ i, i < n → r i * w i = wt_t r n (n - i) := fun i hi => by
    rw [hw i hi, show n - i = (n - 1 - i) + 1 by omega]
    show _ = wt_t r n (n - 1 - i) * r (n - 1 - (n - 1 - i))
    rw [show n - 1 - (n - 1 - i) = i by omega, Nat.mul_comm]
  refine ⟨⟨h2, fun i hi => ?_, fun i hi => ?_⟩, ?_, h3⟩
  · rw [h3 (i + 1) hi, hw i (by omega)]
    congr 1
    omega
  · rw [hw i (by omega), show n - 1 - i = 0 by omega]
    rfl
  · unfold tw_sz
    by_cases h0 : n = 0
    · rw [if_pos h0, h0]
      rfl
    · rw [if_neg h0, Nat.sub_self, h3 0 (by omega)]
      rfl
theorem rw_gat {w : rw_M} {C : Nat → ClassId} {h n : Nat} : rw_grid w C h n h = some (rw_q (C 2) n (fun i => if i < n then some (h + 1 + i) else none)) := if_pos rfl
theorem rw_grow {w : rw_M} {C : Nat → ClassId} {h n a : Nat} (h1 : h < a) (h2 : a < h + 1 + n) : rw_grid w C h n a = some (zz_i (C 0) n (fun _ => 0)) := by
  unfold rw_grid
  rw [if_neg (by omega), if_pos ⟨h1, h2⟩]
theorem rw_gne {w : rw_M} {C : Nat → ClassId} {h n a : Nat} {x : Option va_E} (h1 : a < h ∨ h + 1 + n ≤ a) (h2 : w a = x) : rw_grid w C h n a = x := by
  unfold rw_grid
  rw [if_neg (by omega), if_neg (by omega)]
  exact h2
/-- the Collector so far: t of its weights are there -/
def cl_s (C : Nat → ClassId) (h n q a1 : Nat) (r f : Nat → Nat) (gm gc : Nat → Option Nat) (R : Nat → Nat → Nat) (t : Nat) (v1 : Value) (w w1 : rw_M) : Prop :=
  w1 q = some (.inr (0, [.int (nI n), v1, .ref a1, .ref h, .ref (h + 1), .ref (h + 2), .ref (h + 3 + n), .ref (h + 4 + n)])) ∧ w1 a1 = some (zz_i (C 0) n r) ∧ w1 h = some (zz_i (C 0) n f) ∧ w1 (h + 1) = some (zz_i (C 0) n (fun _ => 0)) ∧
  w1 (h + 2) = some (rw_q (C 2) n (fun i => if i < n then some (h + 2 + 1 + i) else none)) ∧ (∀ i, i < n → w1 (h + 3 + i) = some (zz_i (C 0) n (R i))) ∧ w1 (h + 3 + n) = some (rw_q (C 2) n gm) ∧ w1 (h + 4 + n) = some (rw_q (C 2) n gc) ∧
  (∀ t', t' < t → w1 (h + 5 + n + 2 * t') = some (zz_i (C 0) (wt_t r n (t' + 1)) (fun _ => 0)) ∧ w1 (h + 6 + n + 2 * t') = some (zz_i (C 0) (wt_t r n (t' + 1)) (fun _ => 0))) ∧ ∀ a, a < h → a ≠ q → w1 a = w a
/-- and what stands in its rows -/
def cl_i (h n : Nat) (r f : Nat → Nat) (gm gc : Nat → Option Nat) (t : Nat) : Prop := ∀ i, i < n → n ≤ t + i → f i = wt_t r n (n - 1 - i) ∧ gm i = some (h + 5 + n + 2 * (n - 1 - i)) ∧ gc i = some (h + 6 + n + 2 * (n - 1 - i))
theorem cl_step {C : Nat → ClassId} {h n q a1 t i : Nat} {r f : Nat → Nat} {gm gc : Nat → Option Nat} {R : Nat → Nat → Nat} {v1 : Value} {w w1 : rw_M} (H : cl_s C h n q a1 r f gm gc R t v1 w w1) (hq : q < h) (ha : a1 < h) (hqa : a1 ≠ q) (ht : t < n) (hi : i = n - 1 - t) :
    cl_s C h n q a1 r (va_up f i (wt_t r n t)) (va_up gm i (some (h + 5 + n + 2 * t))) (va_up gc i (some (h + 5 + n + 2 * t + 1))) R (t + 1) v1 w
      (rw_up (rw_up (rw_up (rw_up (rw_up w1 h (zz_i (C 0) n (va_up f i (wt_t r n t)))) (h + 5 + n + 2 * t) (zz_i (C 0) (wt_t r n (t + 1)) (fun _ => 0))) (h + 3 + n) (rw_q (C 2) n (va_up gm i (some (h + 5 + n + 2 * t))))) (h + 5 + n + 2 * t + 1) (zz_i (C 0) (wt_t r n (t + 1)) (fun _ => 0))) (h + 4 + n) (rw_q (C 2) n (va_up gc i (some (h + 5 + n + 2 * t + 1))))) := by
  obtain ⟨c1, c2, c3, c4, c5, c6, c7, c8, c9, c10⟩ := H
  refine ⟨?_, ?_, ?_, ?_, ?_, fun j hj => ?_, ?_, ?_, fun t' ht' => ?_, fun a h1 h2 => ?_⟩
  · repeat (first | exact c1 | refine rw_ne (by omega) ?_)
  · repeat (first | exact c2 | refine rw_ne (by omega) ?_)
  · repeat (first | exact rw_at | refine rw_ne (by omega) ?_)
  · repeat (first | exact c4 | refine rw_ne (by omega) ?_)
  · repeat (first | exact c5 | refine rw_ne (by omega) ?_)
  · repeat (first | exact c6 j hj | refine rw_ne (by omega) ?_)
  · repeat (first | exact rw_at | refine rw_ne (by omega) ?_)
  · repeat (first | exact rw_at | refine rw_ne (by omega) ?_)
  · by_cases e : t' = t
    · subst e
      refine ⟨?_, ?_⟩
      · repeat (first | exact rw_at | refine rw_ne (by omega) ?_)
      · refine rw_ne (by omega) ?_
        exact rw_eq (by omega) rfl
    · have h9 := c9 t' (by omega)
      refine ⟨?_, ?_⟩
      · repeat (first | exact h9.1 | refine rw_ne (by omega) ?_)
      · repeat (first | exact h9.2 | refine rw_ne (by omega) ?_)
  · repeat (first | exact c10 a h1 h2 | refine rw_ne (by omega) ?_)
theorem cl_stepi {h n t i : Nat} {r f : Nat → Nat} {gm gc : Nat → Option Nat} (H : cl_i h n r f gm gc t) (ht : t < n) (hi : i = n - 1 - t) : cl_i h n r (va_up f i (wt_t r n t)) (va_up gm i (some (h + 5 + n + 2 * t))) (va_up gc i (some (h + 5 + n + 2 * t + 1))) (t + 1) := by
  intro j h1 h2
  by_cases e : j = i
  · subst e
    rw [show n - 1 - j = t by omega]
    exact ⟨if_pos rfl, if_pos rfl, (if_pos rfl).trans (congrArg some (by omega))⟩
  · obtain ⟨a, b, c9⟩ := H j h1 (by omega)
    exact ⟨(if_neg e).trans a, (if_neg e).trans b, (if_neg e).trans c9⟩
/-- a row of conjugates gets one more -/
theorem cl_row {C : Nat → ClassId} {h n q a1 t i j x : Nat} {r f : Nat → Nat} {gm gc : Nat → Option Nat} {R : Nat → Nat → Nat} {v1 : Value} {w w1 : rw_M} (H : cl_s C h n q a1 r f gm gc R t v1 w w1) (hq : q < h) (ha : a1 < h) (hi : i < n) :
    cl_s C h n q a1 r f gm gc (fun k => if k = i then va_up (R i) j x else R k) t v1 w (rw_up w1 (h + 3 + i) (zz_i (C 0) n (va_up (R i) j x))) := by
  obtain ⟨c1, c2, c3, c4, c5, c6, c7, c8, c9, c10⟩ := H
  refine ⟨?_, ?_, ?_, ?_, ?_, fun k hk => ?_, ?_, ?_, fun t' ht' => ⟨?_, ?_⟩, fun a h1 h2 => ?_⟩
  · exact rw_ne (by omega) c1
  · exact rw_ne (by omega) c2
  · exact rw_ne (by omega) c3
  · exact rw_ne (by omega) c4
  · exact rw_ne (by omega) c5
  · show rw_up _ _ _ _ = some (zz_i (C 0) n (if k = i then va_up (R i) j x else R k))
    by_cases e : k = i
    · subst e
      rw [if_pos rfl]
      exact rw_at
    · rw [if_neg e]
      exact rw_ne (by omega) (c6 k hk)
  · exact rw_ne (by omega) c7
  · exact rw_ne (by omega) c8
  · exact rw_ne (by omega) (c9 t' ht').1
  · exact rw_ne (by omega) (c9 t' ht').2
  · exact rw_ne (by omega) (c10 a h1 h2)
theorem cl_el {C : Nat → ClassId} {h n q a1 t : Nat} {r f : Nat → Nat} {gm gc : Nat → Option Nat} {R : Nat → Nat → Nat} {v1 v2 : Value} {w w1 : rw_M} (H : cl_s C h n q a1 r f gm gc R t v1 w w1) (hq : q < h) (ha : a1 < h) (hqa : a1 ≠ q) :
    cl_s C h n q a1 r f gm gc R t v2 w (rw_up w1 q (.inr (0, [.int (nI n), v2, .ref a1, .ref h, .ref (h + 1), .ref (h + 2), .ref (h + 3 + n), .ref (h + 4 + n)]))) := by
  obtain ⟨c1, c2, c3, c4, c5, c6, c7, c8, c9, c10⟩ := H
  refine ⟨rw_at, rw_ne hqa c2, rw_ne (by omega) c3, rw_ne (by omega) c4, rw_ne (by omega) c5, fun k hk => rw_ne (by omega) (c6 k hk), rw_ne (by omega) c7, rw_ne (by omega) c8, fun t' ht' => ⟨rw_ne (by omega) (c9 t' ht').1, rw_ne (by omega) (c9 t' ht').2⟩, fun a h1 h2 => rw_ne h2 (c10 a h1 h2)⟩
/-- the rows before i are full, and of row i what stands before j -/
def cl_R (n : Nat) (w : Nat → Nat) (R : Nat → Nat → Nat) (i j : Nat) : Prop := ∀ a b, a < b → b < n → (a < i ∨ (a = i ∧ b < j)) → R a b = w b
theorem cl_R1 {n i j : Nat} {w : Nat → Nat} {R : Nat → Nat → Nat} (h : cl_R n w R i j) (hj : j < n) : cl_R n w (fun k => if k = i then va_up (R i) j (w j) else R k) i (j + 1) := by
  intro a b h1 h2 h3
  show (if a = i then va_up (R i) j (w j) else R a) b = w b
  by_cases e : a = i
  · rw [if_pos e]
    unfold va_up
    by_cases e2 : b = j
    · rw [if_pos e2, e2]
    · rw [if_neg e2, ← e]
      exact h a b h1 h2 (Or.inr ⟨e, by omega⟩)
  · rw [if_neg e]
    exact h a b h1 h2 (by omega)
theorem rw_sz {D : va_G} {a0 h h' : Nat} {w : rw_M} {H0 H : Heap} {locs : List Loc} (V : rw_v D a0 w h H0 H locs) (e : h = h') : rw_v D a0 w h' H0 H locs := e ▸ V
