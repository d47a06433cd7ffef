/-! What the class's constructor has made so far. -/
/-- a subgroup that holds 0 alone, from b on -/
def sb_s (C : Nat → ClassId) (b g N : Nat) (w1 : rw_M) : Prop :=
  w1 b = some (.inr (2, [.ref g, .ref (b + 1), .ref (b + 4), .int (nI 0)])) ∧ w1 (b + 1) = some (.inr (1, [.ref (b + 2), .ref (b + 3), .int (nI 1)])) ∧ w1 (b + 2) = some (zz_i (C 1) N (va_up (fun _ => 0) 0 1)) ∧ w1 (b + 3) = some (zz_i (C 0) N (va_up (fun _ => 0) 0 0)) ∧ w1 (b + 4) = some (zz_i (C 0) 7 (fun _ => 0))
theorem sb_keep {C : Nat → ClassId} {b g N : Nat} {w1 w2 : rw_M} (h : sb_s C b g N w1) (e : ∀ a, b ≤ a → a < b + 5 → w2 a = w1 a) : sb_s C b g N w2 :=
  ⟨(e _ (by omega) (by omega)).trans h.1, (e _ (by omega) (by omega)).trans h.2.1, (e _ (by omega) (by omega)).trans h.2.2.1, (e _ (by omega) (by omega)).trans h.2.2.2.1, (e _ (by omega) (by omega)).trans h.2.2.2.2⟩
/-- the object, its row of places, k subgroups, all else as in wc -/
def tp_s (C : Nat → ClassId) (h P q N : Nat) (wc : rw_M) (k : Nat) (g : Nat → Option Nat) (ob : va_E) (w1 : rw_M) : Prop :=
  w1 q = some ob ∧ w1 P = some (rw_q (C 3) 4 g) ∧ (∀ j, j < k → sb_s C (P + 1 + 5 * j) h N w1) ∧ ∀ a, a < P → a ≠ q → w1 a = wc a
theorem tp_new {C : Nat → ClassId} {h P q N k b : Nat} {wc w1 w2 : rw_M} {g : Nat → Option Nat} {ob e0 : va_E} (H : tp_s C h P q N wc k g ob w1) (hq : q < P) (hb : b = P + 1 + 5 * k)
    (r1 : w2 b = some (.inr (2, [.ref h, .ref (b + 1), .ref (b + 1 + 3), .int (nI 0)]))) (r2 : w2 (b + 1) = some (.inr (1, [.ref (b + 1 + 1), .ref (b + 1 + 2), .int (nI 1)]))) (r3 : w2 (b + 1 + 1) = some (zz_i (C 1) N (va_up (fun _ => 0) 0 1))) (r4 : w2 (b + 1 + 2) = some (zz_i (C 0) N (va_up (fun _ => 0) 0 0))) (r5 : w2 (b + 1 + 3) = some (zz_i (C 0) 7 (fun _ => 0)))
    (r6 : ∀ a, a < b + 1 → a ≠ b → w2 a = rw_up w1 b e0 a) : tp_s C h P q N wc (k + 1) g ob w2 := by
  have hf : ∀ a, a < b → w2 a = w1 a := fun a ha => (r6 a (by omega) (by omega)).trans (rw_ne (by omega) rfl)
  refine ⟨(hf q (by omega)).trans H.1, (hf P (by omega)).trans H.2.1, fun j hj => ?_, fun a h1 h2 => (hf a (by omega)).trans (H.2.2.2 a h1 h2)⟩
  by_cases e : j = k
  · rw [e, ← hb]
    exact ⟨r1, r2, r3, r4, r5⟩
  · exact sb_keep (H.2.2.1 j (by omega)) (fun a h1 h2 => hf a (by omega))
theorem tp_arr {C : Nat → ClassId} {h P q N k : Nat} {wc w1 : rw_M} {g g' : Nat → Option Nat} {ob : va_E} (H : tp_s C h P q N wc k g ob w1) (hq : q < P) : tp_s C h P q N wc k g' ob (rw_up w1 P (rw_q (C 3) 4 g')) :=
  ⟨rw_ne (by omega) H.1, rw_at, fun j hj => sb_keep (H.2.2.1 j hj) (fun a h1 h2 => rw_ne (by omega) rfl), fun a h1 h2 => rw_ne (by omega) (H.2.2.2 a h1 h2)⟩
theorem tp_ob {C : Nat → ClassId} {h P q N k : Nat} {wc w1 : rw_M} {g : Nat → Option Nat} {ob ob' : va_E} (H : tp_s C h P q N wc k g ob w1) (hq : q < P) : tp_s C h P q N wc k g ob' (rw_up w1 q ob') :=
  ⟨rw_at, rw_ne (by omega) H.2.1, fun j hj => sb_keep (H.2.2.1 j hj) (fun a h1 h2 => rw_ne (by omega) rfl), fun a h1 h2 => rw_ne h2 (H.2.2.2 a h1 h2)⟩
/-- all that the constructor leaves; h: the first cell that it makes, q: the object -/
def tp_e (C : Nat → ClassId) (h q : Nat) (x : Int32) (w w1 : rw_M) (h1 n P N : Nat) (f : Nat → Nat) (gm gc g : Nat → Option Nat) (R : Nat → Nat → Nat) (wc w0 : rw_M) : Prop :=
  dg_g x n ∧ P = h + 8 + 3 * n ∧ N = wt_t (dg_f x n) n n ∧ h1 = P + 39 ∧ tp_s C h P q N wc 7 g (.inr (3, [.ref h, .ref P, .ref (P + 21), .ref (P + 26), .ref (P + 31), .ref (P + 36), .int (nI 0)])) w1 ∧ (∀ i, i < 4 → g i = some (P + 1 + 5 * i)) ∧
  w1 (P + 36) = some (.inr (1, [.ref (P + 37), .ref (P + 38), .int (nI 0)])) ∧ w1 (P + 37) = some (zz_i (C 1) N (fun _ => 0)) ∧ w1 (P + 38) = some (zz_i (C 0) N (fun _ => 0)) ∧
  cl_s C (h + 3) n h (h + 2) (dg_f x n) f gm gc R n (.int (nI N)) w0 wc ∧ cl_i (h + 3) n (dg_f x n) f gm gc n ∧ (∀ a b, a < b → b < n → R a b = f b) ∧ (∀ a b, R a b ≤ 128) ∧ ∀ a, a < h → a ≠ q → w1 a = w a
theorem dg_fr {x : Int32} {n : Nat} : ∀ i, i < n → dg_f x n i = dg_r x i := fun i hi => if_pos hi
theorem dg_N0 {x : Int32} {n : Nat} (h : dg_g x n) : 0 < wt_t (dg_f x n) n n ∧ wt_t (dg_f x n) n n ≤ 128 := by
  rw [wt_n dg_fr]
  exact ⟨dg_q1 h.2.1 n (Nat.le_refl _), dg_le h⟩
theorem tp_kin {C : Nat → ClassId} {h P q N : Nat} {wc w1 w2 : rw_M} {g : Nat → Option Nat} {ob e0 : va_E} (H : tp_s C h P q N wc 7 g ob w1) (hq : q < P) (k4 : ∀ a, a < P + 36 + 1 → a ≠ P + 36 → w2 a = rw_up w1 (P + 36) e0 a) : tp_s C h P q N wc 7 g ob w2 := by
  have hf : ∀ a, a < P + 36 → w2 a = w1 a := fun a ha => (k4 a (by omega) (by omega)).trans (rw_ne (by omega) rfl)
  exact ⟨(hf q (by omega)).trans H.1, (hf P (by omega)).trans H.2.1, fun j hj => sb_keep (H.2.2.1 j hj) (fun a h1 h2 => hf a (by omega)), fun a h1 h2 => (hf a (by omega)).trans (H.2.2.2 a h1 h2)⟩
theorem tp_0 {C : Nat → ClassId} {h P q N : Nat} {wc : rw_M} {ob ob' : va_E} (hq : q < P) : tp_s C h P q N wc 0 (fun _ => none) ob' (rw_up (rw_up (rw_up wc q ob) P (rw_q (C 3) 4 (fun _ => none))) q ob') :=
  ⟨rw_at, rw_ne (by omega) rw_at, fun j hj => absurd hj (Nat.not_lt_zero _), fun a h1 h2 => rw_ne h2 (rw_ne (by omega) (rw_ne h2 rfl))⟩
