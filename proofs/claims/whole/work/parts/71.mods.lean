/-! What the reference's constructor has made so far. -/
def mi_s (C : Nat → ClassId) (h q : Nat) (fo fw ft : Nat → Nat) (v0 v1 : Value) (w w1 : rw_M) : Prop :=
  w1 q = some (.inr (4, [v0, v1, .ref h, .ref (h + 1), .ref (h + 2), .ref (h + 3), .int 0, .ref (h + 4), .ref (h + 5), .ref (h + 6), .ref (h + 7), .ref (h + 8), .ref (h + 9), .ref (h + 10)])) ∧
  w1 h = some (zz_i (C 0) 7 fo) ∧ w1 (h + 1) = some (zz_i (C 0) 7 fw) ∧ w1 (h + 2) = some (zz_i (C 0) 7 (fun _ => 0)) ∧ w1 (h + 3) = some (zz_i (C 0) 49 ft) ∧ w1 (h + 4) = some (zz_i (C 0) 16384 (fun _ => 0)) ∧
  w1 (h + 5) = some (zz_i (C 0) 128 (fun _ => 0)) ∧ w1 (h + 6) = some (zz_i (C 0) 128 (fun _ => 0)) ∧ w1 (h + 7) = some (zz_i (C 0) 128 (fun _ => 0)) ∧ w1 (h + 8) = some (zz_i (C 1) 512 (fun _ => 0)) ∧ w1 (h + 9) = some (zz_i (C 1) 128 (fun _ => 0)) ∧ w1 (h + 10) = some (zz_i (C 1) 128 (fun _ => 0)) ∧
  ∀ a, a < h → a ≠ q → w1 a = w a
section
variable {C : Nat → ClassId} {h q : Nat} {fo fw ft : Nat → Nat} {v0 v1 : Value} {w w1 : rw_M}
theorem mi_o {f : Nat → Nat} (H : mi_s C h q fo fw ft v0 v1 w w1) (hq : q < h) : mi_s C h q f fw ft v0 v1 w (rw_up w1 h (zz_i (C 0) 7 f)) := by
  obtain ⟨c1, c2, c3, c4, c5, c6, c7, c8, c9, c10, c11, c12, c13⟩ := H
  exact ⟨rw_ne (by omega) c1, rw_at, rw_ne (by omega) c3, rw_ne (by omega) c4, rw_ne (by omega) c5, rw_ne (by omega) c6, rw_ne (by omega) c7, rw_ne (by omega) c8, rw_ne (by omega) c9, rw_ne (by omega) c10, rw_ne (by omega) c11, rw_ne (by omega) c12, fun a h1 h2 => rw_ne (by omega) (c13 a h1 h2)⟩
theorem mi_w {f : Nat → Nat} (H : mi_s C h q fo fw ft v0 v1 w w1) (hq : q < h) : mi_s C h q fo f ft v0 v1 w (rw_up w1 (h + 1) (zz_i (C 0) 7 f)) := by
  obtain ⟨c1, c2, c3, c4, c5, c6, c7, c8, c9, c10, c11, c12, c13⟩ := H
  exact ⟨rw_ne (by omega) c1, rw_ne (by omega) c2, rw_at, rw_ne (by omega) c4, rw_ne (by omega) c5, rw_ne (by omega) c6, rw_ne (by omega) c7, rw_ne (by omega) c8, rw_ne (by omega) c9, rw_ne (by omega) c10, rw_ne (by omega) c11, rw_ne (by omega) c12, fun a h1 h2 => rw_ne (by omega) (c13 a h1 h2)⟩
theorem mi_t {f : Nat → Nat} (H : mi_s C h q fo fw ft v0 v1 w w1) (hq : q < h) : mi_s C h q fo fw f v0 v1 w (rw_up w1 (h + 3) (zz_i (C 0) 49 f)) := by
  obtain ⟨c1, c2, c3, c4, c5, c6, c7, c8, c9, c10, c11, c12, c13⟩ := H
  exact ⟨rw_ne (by omega) c1, rw_ne (by omega) c2, rw_ne (by omega) c3, rw_ne (by omega) c4, rw_at, rw_ne (by omega) c6, rw_ne (by omega) c7, rw_ne (by omega) c8, rw_ne (by omega) c9, rw_ne (by omega) c10, rw_ne (by omega) c11, rw_ne (by omega) c12, fun a h1 h2 => rw_ne (by omega) (c13 a h1 h2)⟩
theorem mi_q {u0 u1 : Value} (H : mi_s C h q fo fw ft v0 v1 w w1) (hq : q < h) : mi_s C h q fo fw ft u0 u1 w (rw_up w1 q (.inr (4, [u0, u1, .ref h, .ref (h + 1), .ref (h + 2), .ref (h + 3), .int 0, .ref (h + 4), .ref (h + 5), .ref (h + 6), .ref (h + 7), .ref (h + 8), .ref (h + 9), .ref (h + 10)]))) := by
  obtain ⟨c1, c2, c3, c4, c5, c6, c7, c8, c9, c10, c11, c12, c13⟩ := H
  exact ⟨rw_at, rw_ne (by omega) c2, rw_ne (by omega) c3, rw_ne (by omega) c4, rw_ne (by omega) c5, rw_ne (by omega) c6, rw_ne (by omega) c7, rw_ne (by omega) c8, rw_ne (by omega) c9, rw_ne (by omega) c10, rw_ne (by omega) c11, rw_ne (by omega) c12, fun a h1 h2 => rw_ne h2 (c13 a h1 h2)⟩
end
def mi_W (n : Nat) (r fw : Nat → Nat) (t : Nat) : Prop := (∀ i, i < n → n ≤ t + i → fw i = wt_t r n (n - 1 - i)) ∧ ∀ i, fw i ≤ 128
theorem mi_W1 {n t i : Nat} {r fw : Nat → Nat} (H : mi_W n r fw t) (ht : t < n) (hi : i = n - 1 - t) (hb : wt_t r n t ≤ 128) : mi_W n r (va_up fw i (wt_t r n t)) (t + 1) := by
  refine ⟨fun j h1 h2 => ?_, fun j => ?_⟩
  · by_cases e : j = i
    · subst e
      rw [show n - 1 - j = t by omega]
      exact if_pos rfl
    · exact (if_neg e).trans (H.1 j h1 (by omega))
  · unfold va_up
    split
    · exact hb
    · exact H.2 j
def mi_T (n : Nat) (fw ft : Nat → Nat) (i j : Nat) : Prop := (∀ a b, a < b → b < n → (a < i ∨ (a = i ∧ b < j)) → ft (7 * a + b) = fw b) ∧ ∀ a, ft a ≤ 128
theorem mi_T1 {n i j : Nat} {fw ft : Nat → Nat} (H : mi_T n fw ft i j) (hn : n ≤ 7) (hij : i < j) (hj : j < n) (hb : fw j ≤ 128) : mi_T n fw (va_up ft (7 * i + j) (fw j)) i (j + 1) := by
  refine ⟨fun a b h1 h2 h3 => ?_, fun a => ?_⟩
  · unfold va_up
    by_cases e : 7 * a + b = 7 * i + j
    · rw [if_pos e, show b = j by omega]
    · rw [if_neg e]
      exact H.1 a b h1 h2 (by omega)
  · unfold va_up
    split
    · exact hb
    · exact H.2 a
