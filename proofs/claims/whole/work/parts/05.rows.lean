/-! The system's cells by place (a kind and a number): after the constructors nothing changes there but natural numbers. -/
abbrev hw_P : Type := Nat × Nat
abbrev hw_M : Type := hw_P → Nat → Nat
abbrev hw_E : Type := hw_P → (Nat → Nat) → va_E
def hw_up (σ : hw_M) (k : hw_P) (i x : Nat) : hw_M := fun q => if q = k then va_up (σ k) i x else σ q
theorem hw_up_s (σ : hw_M) (k : hw_P) (i x : Nat) : hw_up σ k i x k i = x := by simp [hw_up, va_up]
theorem hw_up_i (σ : hw_M) (k : hw_P) {i j : Nat} (x : Nat) (h : j ≠ i) : hw_up σ k i x k j = σ k j := by simp [hw_up, va_up, h]
theorem hw_up_k (σ : hw_M) {k q : hw_P} (i x : Nat) (h : q ≠ k) : hw_up σ k i x q = σ q := by simp [hw_up, h]
theorem hw_up_v (σ : hw_M) (k : hw_P) (i x j : Nat) : hw_up σ k i x k j = if j = i then x else σ k j := by simp [hw_up, va_up]
def hw_A (ad : hw_P → Nat) (ok : hw_P → Prop) : Nat → Prop := fun q => ∃ k, ok k ∧ ad k = q
def hw_w (D : va_G) (E : hw_E) (ad : hw_P → Nat) (ok : hw_P → Prop) (σ : hw_M) (H : Heap) : Prop :=
  (∀ k, ok k → va_at D CLS (ad k, E k (σ k)) H) ∧ (∀ j k, ok j → ok k → ad j = ad k → j = k) ∧ ∀ k i, σ k i < 2147483648
def hw_v (D : va_G) (E : hw_E) (ad : hw_P → Nat) (ok : hw_P → Prop) (A : Nat → Prop) (σ : hw_M) (H0 H : Heap) (locs : List Loc) : Prop :=
  hw_w D E ad ok σ H ∧ (∀ k, ok k → A (ad k)) ∧ va_S A H0 H locs
/-- what every row of a walk needs: the machine, the method's bytes, its class, the tables' words, the classes -/
def hw_x (p : Program) (c : Code) (s : State) (m : MethodId) (args : Array Value) (cc : ByteArray) (nL : Nat) (own : String) (D : va_G) (T : List (ClassId × FieldType)) : Prop :=
  CallFix p m c cc nL s args WALL own ∧ va_K D CLS T s
theorem hw_keep {D : va_G} {E : hw_E} {ad : hw_P → Nat} {ok : hw_P → Prop} {σ : hw_M} {H H1 : Heap} (h : hw_w D E ad ok σ H) {k : hw_P} (ho : ok k) {i x : Nat} (hx : x < 2147483648)
    (hk : va_at D CLS (ad k, E k (va_up (σ k) i x)) H1) (oq : ∀ q : Nat, q ≠ ad k → H1[q]? = H[q]?) : hw_w D E ad ok (hw_up σ k i x) H1 := by
  refine ⟨fun j hj => ?_, h.2.1, fun q n => ?_⟩
  · by_cases e : j = k
    · subst e
      have e2 : hw_up σ j i x j = va_up (σ j) i x := by simp [hw_up]
      rw [e2]
      exact hk
    · rw [hw_up_k σ i x e]
      exact (h.1 j hj).kept (oq _ (fun z => e (h.2.1 j k hj ho z)))
  · unfold hw_up
    split
    · unfold va_up
      split
      · exact hx
      · exact h.2.2 _ _
    · exact h.2.2 _ _
section
variable {p : Program} {l : Launch} {e : Env} {R : Room} {s : State} {m : MethodId} {args : Array Value} {below : List Frame} {meth : Method} {c : Code} {H : Heap} {locs : List Loc} {cells slots : Nat} {Q : State → Prop}
variable {cc : ByteArray} {nL pc : Nat} {own : String} {ls : Array Slot} {rest : List Value} {D : va_G} {T : List (ClassId × FieldType)} {E : hw_E} {ad : hw_P → Nat} {ok : hw_P → Prop} {A : Nat → Prop} {σ : hw_M} {H0 : Heap}
theorem hw_cell (V : hw_v D E ad ok A σ H0 H locs) {k : hw_P} (ho : ok k) {x : va_E} (he : E k (σ k) = x) : va_P D CLS [(ad k, x)] H := by
  intro i q hq
  cases i with
  | zero =>
    have e : (ad k, x) = q := Option.some.inj hq
    rw [← e, ← he]
    exact V.1.1 k ho
  | succ i => simp at hq
/-- a field is read -/
theorem hw_get (X : hw_x p c s m args cc nL own D T) (V : hw_v D E ad ok A σ H0 H locs) {k : hw_P} (ho : ok k) {C ref : String} {Tb : u_T} {Nf ci index : Nat} {fs : List Value} {v : Value} (he : E k (σ k) = .inr (ci, fs)) (hc : CLS[ci]? = some (C, Tb, Nf))
    (hin : ∀ w ∈ u_ws C Tb Nf, w ∈ WALL) (f : Nat) (hf : f < Nf) (hlink : Cond.fieldLink own index ref (Tb f).2.1 (Tb f).2.2.1 ∈ WALL) (hsame : (Tb f).1 = ref) (hv : fs[f]? = some v) (hdg : decode cc pc = .ok (.getfield index, 3))
    (kk : W p l e R s m args below meth c H locs cells slots Q (F0 m (pc + 3) ls (v :: rest))) : W p l e R s m args below meth c H locs cells slots Q (F0 m pc ls (.ref (ad k) :: rest)) :=
  va_get (D := D) (ci := ci) (v := v) (C := C) (T := Tb) (N := Nf) X.1.1 X.1.2.1 X.1.2.2.2.2 hin X.1.2.2.2.1 X.2 (hw_cell V ho he) 0 rfl hc f hf (X.1.2.2.2.2 _ hlink) (fun _ h => by rw [← hsame]; exact h) hv hdg kk
/-- a number in a field is written -/
theorem hw_put (X : hw_x p c s m args cc nL own D T) (V : hw_v D E ad ok A σ H0 H locs) {k : hw_P} (ho : ok k) {C ref : String} {Tb : u_T} {Nf ci index x : Nat} {fs : List Value} (he : E k (σ k) = .inr (ci, fs)) (hc : CLS[ci]? = some (C, Tb, Nf))
    (hin : ∀ w ∈ u_ws C Tb Nf, w ∈ WALL) (ty0 : Nat → FieldType) (hty : ∀ k, k < Nf → parseFieldDescriptor (Tb k).2.2.1 = some (ty0 k)) (hnm : ∀ a, a < Nf → ∀ b, b < Nf → a ≠ b → (Tb a).2.1 ≠ (Tb b).2.1)
    (f : Nat) (hf : f < Nf) (hlink : Cond.fieldLink own index ref (Tb f).2.1 (Tb f).2.2.1 ∈ WALL) (hsame : (Tb f).1 = ref) (hfin : (Tb f).2.2.2 = false) {ty : FieldType} (hd : parseFieldDescriptor (Tb f).2.2.1 = some ty) (hn : narrow ty (.int (nI x)) = .int (nI x)) (hfit : fits ty (.int (nI x)) = true) (hl : f < fs.length) (hx : x < 2147483648)
    (he2 : E k (va_up (σ k) f x) = .inr (ci, fs.set f (.int (nI x)))) (hdg : decode cc pc = .ok (.putfield index, 3))
    (kk : ∀ (H1 : Heap) (locs1 : List Loc), hw_v D E ad ok A (hw_up σ k f x) H0 H1 locs1 → W p l e R s m args below meth c H1 locs1 cells slots Q (F0 m (pc + 3) ls rest)) : W p l e R s m args below meth c H locs cells slots Q (F0 m pc ls (.int (nI x) :: .ref (ad k) :: rest)) := by
  have hts := X.1.2.2.2.2
  have hK := X.2
  have hap := va_apart (own := own) hts hin ty0 hty hnm hK hc
  have hcell := V.1.1 k ho
  rw [he] at hcell
  obtain ⟨r, h1, cell, q1, q2, q3, q4⟩ := hcell
  have hr : r = (C, Tb, Nf) := Option.some.inj (h1.symm.trans hc)
  subst hr
  obtain ⟨hS, hfc, kC, hkC, hkind⟩ := hK.1 ci _ hc
  obtain ⟨cf, kf, fi, f0, hi, hsl⟩ := hS f hf
  have hlay := hts _ (hin _ (u_in_lay hf))
  unfold u_lay at hlay
  rw [if_neg (by rw [hfin]; decide)] at hlay
  have hst := (u_facts hfc hkC (u_lays hts hin hf) hi).1
  have h6 := u_store hfc hkC hkind hlay hi hd hn hfit
  subst hsame
  refine W.putK X.1.1 X.1.2.1 (f := f0) ⟨X.1.2.2.2.1, hts _ hlink, ⟨_, _, _, hi⟩, hst⟩ (by rw [q2]; exact h6) q1 q3 (by rw [hsl]; exact k2_hasslot (q4 f hf)) rfl rfl hdg fun H' e1 e2 e3 => ?_
  rw [hsl] at e1 ⊢
  refine kk H' _ ⟨hw_keep V.1 ho hx ?_ e3, V.2.1, V.2.2.put e2 e3 (V.2.1 k ho)⟩
  rw [he2]
  exact ⟨_, hc, t_OB.to (V := updV (vp_V fs) f (.int (nI x))) ⟨_, e1, q2, q3, t_set q4 hap hf (.int (nI x))⟩ (fun j _ => vp_updV_set hl (.int (nI x)) j)⟩
theorem hw_iald (X : hw_x p c s m args cc nL own D T) (V : hw_v D E ad ok A σ H0 H locs) {k : hw_P} (ho : ok k) {cA : ClassId} {n i : Nat} (t0 : Nat) (he : E k (σ k) = .inl (cA, n, .inl (fun j => nI (σ k j)))) (ht : T[t0]? = some (cA, .int)) (hi : i < n) (hn : n < 2147483648) (hdg : decode cc pc = .ok (.iaload, 1))
    (kk : W p l e R s m args below meth c H locs cells slots Q (F0 m (pc + 1) ls (.int (nI (σ k i)) :: rest))) : W p l e R s m args below meth c H locs cells slots Q (F0 m pc ls (.int (nI i) :: .ref (ad k) :: rest)) := by
  refine va_iald X.1.1 X.1.2.1 X.2 (hw_cell V ho he) 0 t0 rfl ht (vp_in_nI hi hn) hdg ?_
  rw [nI_clamp (show i < 2 ^ 31 by omega)]
  exact kk
theorem hw_zald (X : hw_x p c s m args cc nL own D T) (V : hw_v D E ad ok A σ H0 H locs) {k : hw_P} (ho : ok k) {cA : ClassId} {n i : Nat} (t0 : Nat) (he : E k (σ k) = .inl (cA, n, .inl (fun j => nI (σ k j)))) (ht : T[t0]? = some (cA, .boolean)) (hi : i < n) (hn : n < 2147483648) (hdg : decode cc pc = .ok (.baload, 1))
    (kk : W p l e R s m args below meth c H locs cells slots Q (F0 m (pc + 1) ls (.int (nI (σ k i)) :: rest))) : W p l e R s m args below meth c H locs cells slots Q (F0 m pc ls (.int (nI i) :: .ref (ad k) :: rest)) := by
  refine va_zald X.1.1 X.1.2.1 X.2 (hw_cell V ho he) 0 t0 rfl ht (vp_in_nI hi hn) hdg ?_
  rw [nI_clamp (show i < 2 ^ 31 by omega)]
  exact kk
theorem hw_alen (X : hw_x p c s m args cc nL own D T) (V : hw_v D E ad ok A σ H0 H locs) {k : hw_P} (ho : ok k) {cA : ClassId} {x : vp_A} {ty : FieldType} (t0 : Nat) (he : E k (σ k) = .inl (cA, x)) (ht : T[t0]? = some (cA, ty)) (hdg : decode cc pc = .ok (.arraylength, 1))
    (kk : W p l e R s m args below meth c H locs cells slots Q (F0 m (pc + 1) ls (.int (nI x.1) :: rest))) : W p l e R s m args below meth c H locs cells slots Q (F0 m pc ls (.ref (ad k) :: rest)) :=
  va_alen X.1.1 X.1.2.1 X.2 (hw_cell V ho he) 0 t0 rfl ht rfl hdg kk
/-- a reference in an array of references, which stays as it is -/
theorem hw_aald (X : hw_x p c s m args cc nL own D T) (V : hw_v D E ad ok A σ H0 H locs) {k : hw_P} (ho : ok k) {cA : ClassId} {n i b : Nat} {g : Nat → Option Nat} {ty : FieldType} (t0 : Nat) (he : E k (σ k) = .inl (cA, n, .inr (.inr (.inr (.inr g))))) (ht : T[t0]? = some (cA, ty)) (hty : ty.isReference = true) (hi : i < n) (hn : n < 2147483648) (hg : g i = some b) (hdg : decode cc pc = .ok (.aaload, 1))
    (kk : W p l e R s m args below meth c H locs cells slots Q (F0 m (pc + 1) ls (.ref b :: rest))) : W p l e R s m args below meth c H locs cells slots Q (F0 m pc ls (.int (nI i) :: .ref (ad k) :: rest)) := by
  have hP := hw_cell V ho he
  have hcl : (nI i).toNatClampNeg = i := nI_clamp (show i < 2 ^ 31 by omega)
  refine W.aald (v := .ref b) (ty := ty) X.1.1 X.1.2.1 (hP 0 _ rfl) ((X.2.2 t0 _ ht).1 n (fun j => va_rf (g j))) hty (fun q => by cases q) (by show ¬ (nI i < 0 ∨ (arrV _ _ _).slots.size ≤ _); rw [arrV_size]; exact vp_in_nI hi hn) ?_ rfl rfl hdg kk
  show (arrV _ _ _).slots[_]? = _
  rw [hcl, arrV_read _ _ hi, hg]
  rfl
theorem hw_iast (X : hw_x p c s m args cc nL own D T) (V : hw_v D E ad ok A σ H0 H locs) {k : hw_P} (ho : ok k) {cA : ClassId} {n i x : Nat} (t0 : Nat) (he : ∀ f, E k f = .inl (cA, n, .inl (fun j => nI (f j)))) (ht : T[t0]? = some (cA, .int)) (hi : i < n) (hn : n < 2147483648) (hx : x < 2147483648) (hdg : decode cc pc = .ok (.iastore, 1))
    (kk : ∀ (H1 : Heap) (locs1 : List Loc), hw_v D E ad ok A (hw_up σ k i x) H0 H1 locs1 → W p l e R s m args below meth c H1 locs1 cells slots Q (F0 m (pc + 1) ls rest)) : W p l e R s m args below meth c H locs cells slots Q (F0 m pc ls (.int (nI x) :: .int (nI i) :: .ref (ad k) :: rest)) := by
  have hP := hw_cell V ho (he (σ k))
  have hcl : (nI i).toNatClampNeg = i := nI_clamp (show i < 2 ^ 31 by omega)
  refine W.iast X.1.1 X.1.2.1 (hP 0 _ rfl) ((X.2.2 t0 _ ht).1 n (fun j => .int (nI (σ k j)))) (fun q => by cases q) (by show ¬ (nI i < 0 ∨ (arrV _ _ _).slots.size ≤ _); rw [arrV_size]; exact vp_in_nI hi hn) rfl rfl hdg fun H1 e z oq => ?_
  refine kk H1 _ ⟨hw_keep V.1 ho hx ?_ oq, V.2.1, V.2.2.put z oq (V.2.1 k ho)⟩
  rw [he]
  show H1[ad k]? = some (vp_cell _ _)
  rw [e]
  rw [vp_cell_i, vp_cell_i, arrV_store, hcl]
  congr 2
  funext q
  by_cases hq : q = i
  · subst hq
    simp [updV, va_up]
  · simp [updV, va_up, hq]
theorem hw_zast (X : hw_x p c s m args cc nL own D T) (V : hw_v D E ad ok A σ H0 H locs) {k : hw_P} (ho : ok k) {cA : ClassId} {n i x : Nat} (t0 : Nat) (he : ∀ f, E k f = .inl (cA, n, .inl (fun j => nI (f j)))) (ht : T[t0]? = some (cA, .boolean)) (hi : i < n) (hn : n < 2147483648) (hx : x < 2) (hdg : decode cc pc = .ok (.bastore, 1))
    (kk : ∀ (H1 : Heap) (locs1 : List Loc), hw_v D E ad ok A (hw_up σ k i x) H0 H1 locs1 → W p l e R s m args below meth c H1 locs1 cells slots Q (F0 m (pc + 1) ls rest)) : W p l e R s m args below meth c H locs cells slots Q (F0 m pc ls (.int (nI x) :: .int (nI i) :: .ref (ad k) :: rest)) := by
  have hP := hw_cell V ho (he (σ k))
  have hcl : (nI i).toNatClampNeg = i := nI_clamp (show i < 2 ^ 31 by omega)
  have hnx : narrow .boolean (.int (nI x)) = .int (nI x) := by
    rcases (show x = 0 ∨ x = 1 by omega) with rfl | rfl <;> decide
  refine W.zast X.1.1 X.1.2.1 (hP 0 _ rfl) ((X.2.2 t0 _ ht).1 n (fun j => .int (nI (σ k j)))) (fun q => by cases q) (by show ¬ (nI i < 0 ∨ (arrV _ _ _).slots.size ≤ _); rw [arrV_size]; exact vp_in_nI hi hn) rfl rfl hdg fun H1 e z oq => ?_
  refine kk H1 _ ⟨hw_keep V.1 ho (by omega) ?_ oq, V.2.1, V.2.2.put z oq (V.2.1 k ho)⟩
  rw [he]
  show H1[ad k]? = some (vp_cell _ _)
  rw [e]
  rw [vp_cell_i, vp_cell_i, arrV_store, hcl]
  congr 2
  funext q
  by_cases hq : q = i
  · subst hq
    simp [updV, va_up, hnx]
  · simp [updV, va_up, hq]
/-! arithmetic on numbers that are natural -/
theorem nw_iconst (X : hw_x p c s m args cc nL own D T) {n : Int} (k : Nat) (hdg : decode cc pc = .ok (.iconst n, 1)) (hv : Int32.ofInt n = nI k)
    (kk : W p l e R s m args below meth c H locs cells slots Q (F0 m (pc + 1) ls (.int (nI k) :: rest))) : W p l e R s m args below meth c H locs cells slots Q (F0 m pc ls rest) := lv_iconst X.1.1 X.1.2.1 hdg hv kk
theorem nw_iconstv (X : hw_x p c s m args cc nL own D T) {n : Int} (v : Int32) (hdg : decode cc pc = .ok (.iconst n, 1)) (hv : Int32.ofInt n = v)
    (kk : W p l e R s m args below meth c H locs cells slots Q (F0 m (pc + 1) ls (.int v :: rest))) : W p l e R s m args below meth c H locs cells slots Q (F0 m pc ls rest) := lv_iconst X.1.1 X.1.2.1 hdg hv kk
theorem nw_bipush (X : hw_x p c s m args cc nL own D T) {n : Int} (k : Nat) (hdg : decode cc pc = .ok (.bipush n, 2)) (hv : (Int8.ofInt n).toInt32 = nI k)
    (kk : W p l e R s m args below meth c H locs cells slots Q (F0 m (pc + 2) ls (.int (nI k) :: rest))) : W p l e R s m args below meth c H locs cells slots Q (F0 m pc ls rest) := lv_bipush X.1.1 X.1.2.1 hdg hv kk
theorem nw_sipush (X : hw_x p c s m args cc nL own D T) {n : Int} (k : Nat) (hdg : decode cc pc = .ok (.sipush n, 3)) (hv : (Int16.ofInt n).toInt32 = nI k)
    (kk : W p l e R s m args below meth c H locs cells slots Q (F0 m (pc + 3) ls (.int (nI k) :: rest))) : W p l e R s m args below meth c H locs cells slots Q (F0 m pc ls rest) := lv_sipush X.1.1 X.1.2.1 hdg hv kk
theorem nw_iload_n (X : hw_x p c s m args cc nL own D T) {k : Fin 4} {i : Nat} {x : Int32} (hdg : decode cc pc = .ok (.iload_n k, 1)) (hi : (k : Nat) = i) (hl : ls[i]? = some (.val (.int x)))
    (kk : W p l e R s m args below meth c H locs cells slots Q (F0 m (pc + 1) ls (.int x :: rest))) : W p l e R s m args below meth c H locs cells slots Q (F0 m pc ls rest) := lv_iload_n X.1.1 X.1.2.1 hdg hi hl kk
theorem nw_iload (X : hw_x p c s m args cc nL own D T) {i : Nat} {x : Int32} (hdg : decode cc pc = .ok (.iload i, 2)) (hl : ls[i]? = some (.val (.int x)))
    (kk : W p l e R s m args below meth c H locs cells slots Q (F0 m (pc + 2) ls (.int x :: rest))) : W p l e R s m args below meth c H locs cells slots Q (F0 m pc ls rest) := lv_iload X.1.1 X.1.2.1 hdg hl kk
theorem nw_aload_n (X : hw_x p c s m args cc nL own D T) {k : Fin 4} {i x : Nat} (hdg : decode cc pc = .ok (.aload_n k, 1)) (hi : (k : Nat) = i) (hl : ls[i]? = some (.val (.ref x)))
    (kk : W p l e R s m args below meth c H locs cells slots Q (F0 m (pc + 1) ls (.ref x :: rest))) : W p l e R s m args below meth c H locs cells slots Q (F0 m pc ls rest) := lv_aload_n X.1.1 X.1.2.1 hdg hi hl kk
theorem nw_aload (X : hw_x p c s m args cc nL own D T) {i x : Nat} (hdg : decode cc pc = .ok (.aload i, 2)) (hl : ls[i]? = some (.val (.ref x)))
    (kk : W p l e R s m args below meth c H locs cells slots Q (F0 m (pc + 2) ls (.ref x :: rest))) : W p l e R s m args below meth c H locs cells slots Q (F0 m pc ls rest) := lv_aload X.1.1 X.1.2.1 hdg hl kk
theorem nw_istore_n (X : hw_x p c s m args cc nL own D T) {k : Fin 4} {i : Nat} {x : Int32} {lv lv' : List (Nat × Value)} (hdg : decode cc pc = .ok (.istore_n k, 1)) (hi : (k : Nat) = i) (h : lv_has ls nL lv) (hn : i < nL) (hl : (i, Value.int x) :: lv.filter (fun q => !(q.1 == i) && !(q.1 + 1 == i && q.2.category == 2)) = lv')
    (kk : ∀ ls' : Array Slot, lv_has ls' nL lv' → W p l e R s m args below meth c H locs cells slots Q (F0 m (pc + 1) ls' rest)) : W p l e R s m args below meth c H locs cells slots Q (F0 m pc ls (.int x :: rest)) := lv_istore_n X.1.1 X.1.2.1 hdg hi h hn hl kk
theorem nw_istore (X : hw_x p c s m args cc nL own D T) {i : Nat} {x : Int32} {lv lv' : List (Nat × Value)} (hdg : decode cc pc = .ok (.istore i, 2)) (h : lv_has ls nL lv) (hn : i < nL) (hl : (i, Value.int x) :: lv.filter (fun q => !(q.1 == i) && !(q.1 + 1 == i && q.2.category == 2)) = lv')
    (kk : ∀ ls' : Array Slot, lv_has ls' nL lv' → W p l e R s m args below meth c H locs cells slots Q (F0 m (pc + 2) ls' rest)) : W p l e R s m args below meth c H locs cells slots Q (F0 m pc ls (.int x :: rest)) := lv_istore X.1.1 X.1.2.1 hdg h hn hl kk
theorem nw_astore_n (X : hw_x p c s m args cc nL own D T) {k : Fin 4} {i x : Nat} {lv lv' : List (Nat × Value)} (hdg : decode cc pc = .ok (.astore_n k, 1)) (hi : (k : Nat) = i) (h : lv_has ls nL lv) (hn : i < nL) (hl : (i, Value.ref x) :: lv.filter (fun q => !(q.1 == i) && !(q.1 + 1 == i && q.2.category == 2)) = lv')
    (kk : ∀ ls' : Array Slot, lv_has ls' nL lv' → W p l e R s m args below meth c H locs cells slots Q (F0 m (pc + 1) ls' rest)) : W p l e R s m args below meth c H locs cells slots Q (F0 m pc ls (.ref x :: rest)) := lv_astore_n X.1.1 X.1.2.1 hdg hi h hn hl kk
theorem nw_astore (X : hw_x p c s m args cc nL own D T) {i x : Nat} {lv lv' : List (Nat × Value)} (hdg : decode cc pc = .ok (.astore i, 2)) (h : lv_has ls nL lv) (hn : i < nL) (hl : (i, Value.ref x) :: lv.filter (fun q => !(q.1 == i) && !(q.1 + 1 == i && q.2.category == 2)) = lv')
    (kk : ∀ ls' : Array Slot, lv_has ls' nL lv' → W p l e R s m args below meth c H locs cells slots Q (F0 m (pc + 2) ls' rest)) : W p l e R s m args below meth c H locs cells slots Q (F0 m pc ls (.ref x :: rest)) := lv_astore X.1.1 X.1.2.1 hdg h hn hl kk
theorem nw_iinc (X : hw_x p c s m args cc nL own D T) {i k a : Nat} {n : Int} (b : Nat) {lv lv' : List (Nat × Value)} (hdg : decode cc pc = .ok (.iinc i n, 3)) (h : lv_has ls nL lv) (hk : lv[k]? = some (i, .int (nI a))) (hb : Int32.ofInt n = nI b) (hn : i < nL) (hl : (i, Value.int (nI (a + b))) :: lv.filter (fun q => !(q.1 == i) && !(q.1 + 1 == i && q.2.category == 2)) = lv')
    (kk : ∀ ls' : Array Slot, lv_has ls' nL lv' → W p l e R s m args below meth c H locs cells slots Q (F0 m (pc + 3) ls' rest)) : W p l e R s m args below meth c H locs cells slots Q (F0 m pc ls rest) :=
  lv_iinc X.1.1 X.1.2.1 hdg h hk (by rw [hb, nI_add]) hn hl kk
/-- one less: a may be 0 -/
theorem nw_idec (X : hw_x p c s m args cc nL own D T) {i k a : Nat} {lv lv' : List (Nat × Value)} (hdg : decode cc pc = .ok (.iinc i (-1), 3)) (h : lv_has ls nL lv) (hk : lv[k]? = some (i, .int (nI a))) (hn : i < nL) (hl : (i, Value.int (nI a - 1)) :: lv.filter (fun q => !(q.1 == i) && !(q.1 + 1 == i && q.2.category == 2)) = lv')
    (kk : ∀ ls' : Array Slot, lv_has ls' nL lv' → W p l e R s m args below meth c H locs cells slots Q (F0 m (pc + 3) ls' rest)) : W p l e R s m args below meth c H locs cells slots Q (F0 m pc ls rest) :=
  lv_iinc X.1.1 X.1.2.1 hdg h hk (by rw [Int32.sub_eq_add_neg]; rfl) hn hl kk
theorem nw_iadd (X : hw_x p c s m args cc nL own D T) {a b : Nat} (hdg : decode cc pc = .ok (.iadd, 1))
    (kk : W p l e R s m args below meth c H locs cells slots Q (F0 m (pc + 1) ls (.int (nI (a + b)) :: rest))) : W p l e R s m args below meth c H locs cells slots Q (F0 m pc ls (.int (nI b) :: .int (nI a) :: rest)) := lv_iadd X.1.1 X.1.2.1 hdg (by rw [nI_add]; exact kk)
theorem nw_isub (X : hw_x p c s m args cc nL own D T) {a b : Nat} (h : b ≤ a) (hdg : decode cc pc = .ok (.isub, 1))
    (kk : W p l e R s m args below meth c H locs cells slots Q (F0 m (pc + 1) ls (.int (nI (a - b)) :: rest))) : W p l e R s m args below meth c H locs cells slots Q (F0 m pc ls (.int (nI b) :: .int (nI a) :: rest)) := lv_isub X.1.1 X.1.2.1 hdg (by rw [pk_sub h]; exact kk)
theorem nw_imul (X : hw_x p c s m args cc nL own D T) {a b : Nat} (hdg : decode cc pc = .ok (.imul, 1))
    (kk : W p l e R s m args below meth c H locs cells slots Q (F0 m (pc + 1) ls (.int (nI (a * b)) :: rest))) : W p l e R s m args below meth c H locs cells slots Q (F0 m pc ls (.int (nI b) :: .int (nI a) :: rest)) := lv_imul X.1.1 X.1.2.1 hdg (by rw [pk_mul]; exact kk)
theorem nw_idiv (X : hw_x p c s m args cc nL own D T) {a b : Nat} (ha : a < 2147483648) (h0 : 0 < b) (hb : b < 2147483648) (hdg : decode cc pc = .ok (.idiv, 1))
    (kk : W p l e R s m args below meth c H locs cells slots Q (F0 m (pc + 1) ls (.int (nI (a / b)) :: rest))) : W p l e R s m args below meth c H locs cells slots Q (F0 m pc ls (.int (nI b) :: .int (nI a) :: rest)) := lv_idiv X.1.1 X.1.2.1 hdg (nI_ne0 h0 hb) (by rw [pk_div ha h0 hb]; exact kk)
theorem nw_irem (X : hw_x p c s m args cc nL own D T) {a b : Nat} (ha : a < 2147483648) (h0 : 0 < b) (hb : b < 2147483648) (hdg : decode cc pc = .ok (.irem, 1))
    (kk : W p l e R s m args below meth c H locs cells slots Q (F0 m (pc + 1) ls (.int (nI (a % b)) :: rest))) : W p l e R s m args below meth c H locs cells slots Q (F0 m pc ls (.int (nI b) :: .int (nI a) :: rest)) := lv_irem X.1.1 X.1.2.1 hdg (nI_ne0 h0 hb) (by rw [pk_rem ha h0 hb]; exact kk)
theorem nw_dup (X : hw_x p c s m args cc nL own D T) {va : Value} (hdg : decode cc pc = .ok (.dup, 1)) (hva : va.category = 1)
    (kk : W p l e R s m args below meth c H locs cells slots Q (F0 m (pc + 1) ls (va :: va :: rest))) : W p l e R s m args below meth c H locs cells slots Q (F0 m pc ls (va :: rest)) := lv_dup X.1.1 X.1.2.1 hdg hva kk
theorem nw_pop (X : hw_x p c s m args cc nL own D T) {va : Value} (hdg : decode cc pc = .ok (.pop, 1)) (hva : va.category = 1)
    (kk : W p l e R s m args below meth c H locs cells slots Q (F0 m (pc + 1) ls rest)) : W p l e R s m args below meth c H locs cells slots Q (F0 m pc ls (va :: rest)) := lv_pop X.1.1 X.1.2.1 hdg hva kk
theorem nw_goto (X : hw_x p c s m args cc nL own D T) {off : Int} {tgt : Nat} (hdg : decode cc pc = .ok (.goto off, 3)) (ht : (pc : Int) + off = (tgt : Int))
    (kk : W p l e R s m args below meth c H locs cells slots Q (F0 m tgt ls rest)) : W p l e R s m args below meth c H locs cells slots Q (F0 m pc ls rest) := lv_goto X.1.1 X.1.2.1 hdg ht kk
theorem nw_icmp_eq (X : hw_x p c s m args cc nL own D T) {a b : Nat} {off : Int} {tgt : Nat} (hdg : decode cc pc = .ok (.if_icmp .eq off, 3)) (ht : (pc : Int) + off = (tgt : Int)) (ha : a < 2147483648) (hb : b < 2147483648)
    (kt : a = b → W p l e R s m args below meth c H locs cells slots Q (F0 m tgt ls rest)) (kf : a ≠ b → W p l e R s m args below meth c H locs cells slots Q (F0 m (pc + 3) ls rest)) : W p l e R s m args below meth c H locs cells slots Q (F0 m pc ls (.int (nI b) :: .int (nI a) :: rest)) :=
  lv_icmp_eq X.1.1 X.1.2.1 hdg ht (fun h => kt ((nI_eq ha hb).mp h)) (fun h => kf (fun z => h ((nI_eq ha hb).mpr z)))
theorem nw_icmp_ne (X : hw_x p c s m args cc nL own D T) {a b : Nat} {off : Int} {tgt : Nat} (hdg : decode cc pc = .ok (.if_icmp .ne off, 3)) (ht : (pc : Int) + off = (tgt : Int)) (ha : a < 2147483648) (hb : b < 2147483648)
    (kt : a ≠ b → W p l e R s m args below meth c H locs cells slots Q (F0 m tgt ls rest)) (kf : a = b → W p l e R s m args below meth c H locs cells slots Q (F0 m (pc + 3) ls rest)) : W p l e R s m args below meth c H locs cells slots Q (F0 m pc ls (.int (nI b) :: .int (nI a) :: rest)) :=
  lv_icmp_ne X.1.1 X.1.2.1 hdg ht (fun h => kt (fun z => h ((nI_eq ha hb).mpr z))) (fun h => kf ((nI_eq ha hb).mp h))
theorem nw_icmp_lt (X : hw_x p c s m args cc nL own D T) {a b : Nat} {off : Int} {tgt : Nat} (hdg : decode cc pc = .ok (.if_icmp .lt off, 3)) (ht : (pc : Int) + off = (tgt : Int)) (ha : a < 2147483648) (hb : b < 2147483648)
    (kt : a < b → W p l e R s m args below meth c H locs cells slots Q (F0 m tgt ls rest)) (kf : b ≤ a → W p l e R s m args below meth c H locs cells slots Q (F0 m (pc + 3) ls rest)) : W p l e R s m args below meth c H locs cells slots Q (F0 m pc ls (.int (nI b) :: .int (nI a) :: rest)) :=
  lv_icmp_lt X.1.1 X.1.2.1 hdg ht (fun h => kt ((nI_ltI ha hb).mp h)) (fun h => kf (Nat.le_of_not_lt fun z => h ((nI_ltI ha hb).mpr z)))
theorem nw_icmp_ge (X : hw_x p c s m args cc nL own D T) {a b : Nat} {off : Int} {tgt : Nat} (hdg : decode cc pc = .ok (.if_icmp .ge off, 3)) (ht : (pc : Int) + off = (tgt : Int)) (ha : a < 2147483648) (hb : b < 2147483648)
    (kt : b ≤ a → W p l e R s m args below meth c H locs cells slots Q (F0 m tgt ls rest)) (kf : a < b → W p l e R s m args below meth c H locs cells slots Q (F0 m (pc + 3) ls rest)) : W p l e R s m args below meth c H locs cells slots Q (F0 m pc ls (.int (nI b) :: .int (nI a) :: rest)) :=
  lv_icmp_ge X.1.1 X.1.2.1 hdg ht (fun h => kt ((nI_leI hb ha).mp h)) (fun h => kf (Nat.lt_of_not_le fun z => h ((nI_leI hb ha).mpr z)))
theorem nw_icmp_gt (X : hw_x p c s m args cc nL own D T) {a b : Nat} {off : Int} {tgt : Nat} (hdg : decode cc pc = .ok (.if_icmp .gt off, 3)) (ht : (pc : Int) + off = (tgt : Int)) (ha : a < 2147483648) (hb : b < 2147483648)
    (kt : b < a → W p l e R s m args below meth c H locs cells slots Q (F0 m tgt ls rest)) (kf : a ≤ b → W p l e R s m args below meth c H locs cells slots Q (F0 m (pc + 3) ls rest)) : W p l e R s m args below meth c H locs cells slots Q (F0 m pc ls (.int (nI b) :: .int (nI a) :: rest)) :=
  lv_icmp_gt X.1.1 X.1.2.1 hdg ht (fun h => kt ((nI_ltI hb ha).mp h)) (fun h => kf (Nat.le_of_not_lt fun z => h ((nI_ltI hb ha).mpr z)))
theorem nw_icmp_le (X : hw_x p c s m args cc nL own D T) {a b : Nat} {off : Int} {tgt : Nat} (hdg : decode cc pc = .ok (.if_icmp .le off, 3)) (ht : (pc : Int) + off = (tgt : Int)) (ha : a < 2147483648) (hb : b < 2147483648)
    (kt : a ≤ b → W p l e R s m args below meth c H locs cells slots Q (F0 m tgt ls rest)) (kf : b < a → W p l e R s m args below meth c H locs cells slots Q (F0 m (pc + 3) ls rest)) : W p l e R s m args below meth c H locs cells slots Q (F0 m pc ls (.int (nI b) :: .int (nI a) :: rest)) :=
  lv_icmp_le X.1.1 X.1.2.1 hdg ht (fun h => kt ((nI_leI ha hb).mp h)) (fun h => kf (Nat.lt_of_not_le fun z => h ((nI_leI ha hb).mpr z)))
theorem nw_if_eq (X : hw_x p c s m args cc nL own D T) {a : Nat} {off : Int} {tgt : Nat} (hdg : decode cc pc = .ok (.ifCond .eq off, 3)) (ht : (pc : Int) + off = (tgt : Int)) (ha : a < 2147483648)
    (kt : a = 0 → W p l e R s m args below meth c H locs cells slots Q (F0 m tgt ls rest)) (kf : a ≠ 0 → W p l e R s m args below meth c H locs cells slots Q (F0 m (pc + 3) ls rest)) : W p l e R s m args below meth c H locs cells slots Q (F0 m pc ls (.int (nI a) :: rest)) :=
  lv_if_eq X.1.1 X.1.2.1 hdg ht (fun h => kt ((nI_eq ha (by decide)).mp (h.trans nI_0.symm))) (fun h => kf (fun z => h (by rw [z]; rfl)))
theorem nw_if_ne (X : hw_x p c s m args cc nL own D T) {a : Nat} {off : Int} {tgt : Nat} (hdg : decode cc pc = .ok (.ifCond .ne off, 3)) (ht : (pc : Int) + off = (tgt : Int)) (ha : a < 2147483648)
    (kt : a ≠ 0 → W p l e R s m args below meth c H locs cells slots Q (F0 m tgt ls rest)) (kf : a = 0 → W p l e R s m args below meth c H locs cells slots Q (F0 m (pc + 3) ls rest)) : W p l e R s m args below meth c H locs cells slots Q (F0 m pc ls (.int (nI a) :: rest)) :=
  lv_if_ne X.1.1 X.1.2.1 hdg ht (fun h => kt (fun z => h (by rw [z]; rfl))) (fun h => kf ((nI_eq ha (by decide)).mp (h.trans nI_0.symm)))
theorem nw_if_le (X : hw_x p c s m args cc nL own D T) {a : Nat} {off : Int} {tgt : Nat} (hdg : decode cc pc = .ok (.ifCond .le off, 3)) (ht : (pc : Int) + off = (tgt : Int)) (ha : a < 2147483648)
    (kt : a = 0 → W p l e R s m args below meth c H locs cells slots Q (F0 m tgt ls rest)) (kf : 0 < a → W p l e R s m args below meth c H locs cells slots Q (F0 m (pc + 3) ls rest)) : W p l e R s m args below meth c H locs cells slots Q (F0 m pc ls (.int (nI a) :: rest)) :=
  lv_if_le X.1.1 X.1.2.1 hdg ht (fun h => kt (Nat.eq_zero_of_le_zero (Nat.le_of_not_lt fun z => nI_nle z ha h))) (fun h => kf (Nat.pos_of_ne_zero fun z => h (by rw [z]; decide)))
/-- a counter that has gone one below a -/
theorem nw_if_ltp (X : hw_x p c s m args cc nL own D T) {a : Nat} {off : Int} {tgt : Nat} (hdg : decode cc pc = .ok (.ifCond .lt off, 3)) (ht : (pc : Int) + off = (tgt : Int)) (ha : a < 2147483648)
    (kt : a = 0 → W p l e R s m args below meth c H locs cells slots Q (F0 m tgt ls rest)) (kf : ∀ b, a = b + 1 → W p l e R s m args below meth c H locs cells slots Q (F0 m (pc + 3) ls rest)) : W p l e R s m args below meth c H locs cells slots Q (F0 m pc ls (.int (nI a - 1) :: rest)) := by
  cases a with
  | zero => exact lv_if_lt X.1.1 X.1.2.1 hdg ht (fun _ => kt rfl) (fun h => absurd (by decide) h)
  | succ b =>
    rw [nI_pred]
    exact lv_if_lt X.1.1 X.1.2.1 hdg ht (fun h => absurd h (nI_pos (by omega))) (fun _ => kf b rfl)
theorem nw_if_lt (X : hw_x p c s m args cc nL own D T) {x : Int32} {off : Int} {tgt : Nat} (hdg : decode cc pc = .ok (.ifCond .lt off, 3)) (ht : (pc : Int) + off = (tgt : Int))
    (kt : x < 0 → W p l e R s m args below meth c H locs cells slots Q (F0 m tgt ls rest)) (kf : ¬ x < 0 → W p l e R s m args below meth c H locs cells slots Q (F0 m (pc + 3) ls rest)) : W p l e R s m args below meth c H locs cells slots Q (F0 m pc ls (.int x :: rest)) :=
  lv_if_lt X.1.1 X.1.2.1 hdg ht kt kf
end
