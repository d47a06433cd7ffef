/-! Building level by level: what the memory says between the steps. -/
section
variable {p : Program} {l : Launch} {e : Env} {R : Room} {s : State} {m : MethodId} {args : Array Value} {below : List Frame} {meth : Method} {c : Code} {H : Heap} {locs : List Loc} {cells slots : Nat} {Q : State → Prop}
variable {cc : ByteArray} {nL pc : Nat} {own : String} {ls : Array Slot} {rest : List Value} {D : va_G} {T : List (ClassId × FieldType)}
theorem nw_isub1 (X : hw_x p c s m args cc nL own D T) {a : Nat} (hdg : decode cc pc = .ok (.isub, 1))
    (kk : W p l e R s m args below meth c H locs cells slots Q (F0 m (pc + 1) ls (.int (nI a - 1) :: rest))) : W p l e R s m args below meth c H locs cells slots Q (F0 m pc ls (.int (nI 1) :: .int (nI a) :: rest)) := lv_isub X.1.1 X.1.2.1 hdg kk
end
section
variable {z : zz_Z} {σ σ1 σ2 σ3 : hw_M} {i : Nat}
theorem bl_eq (h : ∀ u : hw_P, u.1 ≠ 8 → u.1 ≠ 10 → σ1 u = σ u) : σ1 (1, 0) = σ (1, 0) ∧ σ1 (2, 0) = σ (2, 0) ∧ σ1 (3, 0) = σ (3, 0) ∧ σ1 (4, 0) = σ (4, 0) ∧ ((fun i => σ1 (6, i)) = fun i => σ (6, i)) :=
  ⟨h _ (by decide) (by decide), h _ (by decide) (by decide), h _ (by decide) (by decide), h _ (by decide) (by decide), funext fun i => h (6, i) (by show (6 : Nat) ≠ 8; decide) (by show (6 : Nat) ≠ 10; decide)⟩
theorem bl_st (h : ∀ u : hw_P, u.1 ≠ 8 → u.1 ≠ 10 → σ1 u = σ u) (hS : st_ok z σ) : st_ok z σ1 := by
  obtain ⟨e1, e2, e3, -, -⟩ := bl_eq h
  unfold st_ok
  rw [e1, e2, e3]
  exact hS
theorem bl_mk (h : ∀ u : hw_P, u.1 ≠ 8 → u.1 ≠ 10 → σ1 u = σ u) (d : Nat) : mo_k z σ1 d ↔ mo_k z σ d := by
  obtain ⟨-, e2, e3, e4, e6⟩ := bl_eq h
  show tw_ok _ _ _ _ _ _ ↔ _
  rw [e2, e3, e4, e6]
theorem rl_keep (hR : rl_ok z σ) (h : ∀ u : hw_P, u.1 ≠ 8 → u.1 ≠ 10 → σ1 u = σ u) : rl_ok z σ1 := by
  obtain ⟨-, e2, e3, e4, e6⟩ := bl_eq h
  refine ⟨fun i hi => by rw [e3, e4]; exact hR.1 i hi, fun i j h1 h2 => ?_⟩
  rw [e3, congrFun e6 i]
  exact hR.2 i j h1 h2
theorem lo_top (hS : st_ok z σ) : lo_ok z σ (zz_n z) := by
  refine ⟨hS, ?_, fun i h1 h2 => absurd h2 (Nat.not_lt.mpr h1)⟩
  rw [Nat.sub_self]
  exact fun k hk => absurd hk (Nat.not_lt_zero _)
theorem bl_le (h : ∀ u : hw_P, u.1 ≠ 8 → u.1 ≠ 10 → σ1 u = σ u) {d n : Nat} (hk : mo_k z σ n) (hd : d ≤ n) : mo_k z σ1 d := (bl_mk h d).mpr (hk.le hd)
theorem bl_k (h : ∀ u : hw_P, u.1 ≠ 8 → u.1 ≠ 10 → σ1 u = σ u) (hL : lo_ok z σ1 0) : mo_k z σ (zz_n z) := (bl_mk h _).mp hL.2.1
theorem bl_ne8 {f : hw_M → hw_M → Prop} (f1 : ∀ u : hw_P, u ≠ (8, i) → σ2 u = σ1 u) : ∀ u : hw_P, u.1 ≠ 8 → u.1 ≠ 10 → σ2 u = σ1 u := fun u h _ => f1 u (fun e => h (by rw [e]))
theorem bl_ne10 (f1 : ∀ u : hw_P, u ≠ (10, i) → σ2 u = σ1 u) : ∀ u : hw_P, u.1 ≠ 8 → u.1 ≠ 10 → σ2 u = σ1 u := fun u _ h => f1 u (fun e => h (by rw [e]))
/-- behind the moves -/
theorem bl_mid (hi : i < zz_n z) (hL : lo_ok z σ1 (i + 1)) (f1 : ∀ u : hw_P, u ≠ (8, i) → σ2 u = σ1 u) (v1 : ∀ y, y < σ1 (2, 0) i * σ1 (3, 0) i → σ2 (8, i) y = ex_it (mo_t z σ1 i) (y / σ1 (3, 0) i) (y % σ1 (3, 0) i)) :
    lo_ok z σ2 (i + 1) ∧ (∀ y, y < σ2 (2, 0) i * σ2 (3, 0) i → σ2 (8, i) y = ex_it (mo_t z σ2 i) (y / σ2 (3, 0) i) (y % σ2 (3, 0) i)) ∧ ∀ u : hw_P, u.1 ≠ 8 → u.1 ≠ 10 → σ2 u = σ1 u := by
  have hK := lo_keep hL (lo_fr8 (f := i + 1) f1 (Nat.lt_succ_self i))
  have hf := bl_ne8 (f := fun _ _ => True) f1
  obtain ⟨-, e2, e3, -, -⟩ := bl_eq hf
  refine ⟨hK.1, ?_, hf⟩
  rw [e2, e3, hK.2.2.1]
  exact v1
/-- behind the carries: what is left is what the three questions ask -/
theorem bl_end (hi : i < zz_n z) (hL : lo_ok z σ2 (i + 1)) (hm : ∀ y, y < σ2 (2, 0) i * σ2 (3, 0) i → σ2 (8, i) y = ex_it (mo_t z σ2 i) (y / σ2 (3, 0) i) (y % σ2 (3, 0) i)) (hR : rl_ok z σ2) (f2 : ∀ u : hw_P, u ≠ (10, i) → σ3 u = σ2 u)
    (v2 : ∀ y, y < σ2 (2, 0) i * σ2 (3, 0) i → σ3 (10, i) y = mo_p z σ2 (zz_n z - (i + 1)) (σ2 (4, 0) i) (σ2 (8, i) y)) (hfr : ∀ u : hw_P, u.1 ≠ 8 → u.1 ≠ 10 → σ2 u = σ u) :
    (lo_ok z σ3 (i + 1) ∧ ∀ y, y < σ3 (2, 0) i * σ3 (3, 0) i → σ3 (8, i) y = ex_it (mo_t z σ3 i) (y / σ3 (3, 0) i) (y % σ3 (3, 0) i)) ∧ (mo_k z σ3 (zz_n z - i) → lo_ok z σ3 i) ∧
      (mo_k z σ3 (zz_n z - i) ↔ ((∀ x j, x < σ3 (3, 0) i → i < j → j < zz_n z → mo_t z σ3 i (mo_p z σ3 (zz_n z - (i + 1)) x (σ3 (3, 0) j)) = mo_p z σ3 (zz_n z - (i + 1)) (mo_t z σ3 i x) (σ3 (6, i) j)) ∧ mo_t z σ3 i (σ3 (4, 0) i) = σ3 (4, 0) i ∧
        ∀ x, x < σ3 (3, 0) i → mo_p z σ3 (zz_n z - (i + 1)) (σ3 (4, 0) i) (ex_it (mo_t z σ3 i) (σ3 (2, 0) i) x) = mo_p z σ3 (zz_n z - (i + 1)) x (σ3 (4, 0) i))) ∧ ∀ u : hw_P, u.1 ≠ 8 → u.1 ≠ 10 → σ3 u = σ u := by
  have hK := lo_keep hL (lo_fr10 (f := i + 1) f2 (Nat.lt_succ_self i))
  have hf := bl_ne10 f2
  obtain ⟨-, e2, e3, e4, e6⟩ := bl_eq hf
  have e8 : σ3 (8, i) = σ2 (8, i) := f2 _ (hw_ne (by decide))
  have hm3 : ∀ y, y < σ3 (2, 0) i * σ3 (3, 0) i → σ3 (8, i) y = ex_it (mo_t z σ3 i) (y / σ3 (3, 0) i) (y % σ3 (3, 0) i) := by
    rw [e2, e3, e8, hK.2.2.1]
    exact hm
  have hR3 := rl_keep hR hf
  refine ⟨⟨hK.1, hm3⟩, fun hk => ⟨hK.1.1, hk, fun j h1 h2 => ?_⟩, tw_ask hK.1.1.2.2.2.2.1 hi hK.1.2.1 (hR3.1 i hi) (hR3.2 i), fun u a b => (hf u a b).trans (hfr u a b)⟩
  by_cases e : j = i
  · subst e
    intro k hk9
    have a1 := hm3 k hk9
    refine ⟨a1, ?_⟩
    show σ3 (10, j) k = mo_p z σ3 (zz_n z - (j + 1)) (σ3 (4, 0) j) (ex_it (mo_t z σ3 j) (k / σ3 (3, 0) j) (k % σ3 (3, 0) j))
    rw [← a1, v2 k (by rw [← e2, ← e3]; exact hk9), hK.2.1, e4, e8]
  · exact hK.1.2.2 j (by omega) h2
end
