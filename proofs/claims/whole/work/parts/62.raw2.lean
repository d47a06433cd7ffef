/-! Constructors: arrays, calls. -/
section
variable {p : Program} {l : Launch} {e : Env} {R : Room} {s : State} {m : MethodId} {args : Array Value} {below : List Frame} {meth : Method} {c : Code} {H : Heap} {locs : List Loc} {cells slots : Nat} {Q : State → Prop}
variable {cc : ByteArray} {nL pc : Nat} {own : String} {ls : Array Slot} {rest st0 : List Value} {D : va_G} {C : Nat → ClassId} {a0 h : Nat} {w : rw_M} {H0 : Heap}
theorem rw_iald (X : rw_x p c s m args cc nL own D C) (V : rw_v D a0 w h H0 H locs) {q n i : Nat} {f : Nat → Nat} (he : w q = some (zz_i (C 0) n f)) (hi : i < n) (hn : n < 2147483648) (hdg : decode cc pc = .ok (.iaload, 1))
    (kk : W p l e R s m args below meth c H locs cells slots Q (F0 m (pc + 1) ls (.int (nI (f i)) :: rest))) : W p l e R s m args below meth c H locs cells slots Q (F0 m pc ls (.int (nI i) :: .ref q :: rest)) := by
  refine va_iald X.1.1.1 X.1.1.2.1 X.1.2 (rw_P V he) 0 0 rfl rfl (vp_in_nI hi hn) hdg ?_
  rw [nI_clamp (show i < 2 ^ 31 by omega)]
  exact kk
theorem rw_zald (X : rw_x p c s m args cc nL own D C) (V : rw_v D a0 w h H0 H locs) {q n i : Nat} {f : Nat → Nat} (he : w q = some (zz_i (C 1) n f)) (hi : i < n) (hn : n < 2147483648) (hdg : decode cc pc = .ok (.baload, 1))
    (kk : W p l e R s m args below meth c H locs cells slots Q (F0 m (pc + 1) ls (.int (nI (f i)) :: rest))) : W p l e R s m args below meth c H locs cells slots Q (F0 m pc ls (.int (nI i) :: .ref q :: rest)) := by
  refine va_zald X.1.1.1 X.1.1.2.1 X.1.2 (rw_P V he) 0 1 rfl rfl (vp_in_nI hi hn) hdg ?_
  rw [nI_clamp (show i < 2 ^ 31 by omega)]
  exact kk
theorem rw_alen (X : rw_x p c s m args cc nL own D C) (V : rw_v D a0 w h H0 H locs) {q n : Nat} {f : Nat → Nat} (he : w q = some (zz_i (C 0) n f)) (hdg : decode cc pc = .ok (.arraylength, 1))
    (kk : W p l e R s m args below meth c H locs cells slots Q (F0 m (pc + 1) ls (.int (nI n) :: rest))) : W p l e R s m args below meth c H locs cells slots Q (F0 m pc ls (.ref q :: rest)) :=
  va_alen X.1.1.1 X.1.1.2.1 X.1.2 (rw_P V he) 0 0 rfl rfl rfl hdg kk
theorem rw_aald (X : rw_x p c s m args cc nL own D C) (V : rw_v D a0 w h H0 H locs) {q n i b : Nat} {g : Nat → Option Nat} (t0 : Nat) {cA : ClassId} {ty : FieldType} (he : w q = some (rw_q cA n g)) (ht : (rw_T C)[t0]? = some (cA, ty)) (hty : ty.isReference = true) (hi : i < n) (hn : n < 2147483648) (hg : g i = some b) (hdg : decode cc pc = .ok (.aaload, 1))
    (kk : W p l e R s m args below meth c H locs cells slots Q (F0 m (pc + 1) ls (.ref b :: rest))) : W p l e R s m args below meth c H locs cells slots Q (F0 m pc ls (.int (nI i) :: .ref q :: rest)) := by
  have hP := rw_P V he
  have hcl : (nI i).toNatClampNeg = i := nI_clamp (show i < 2 ^ 31 by omega)
  refine W.aald (v := .ref b) (ty := ty) X.1.1.1 X.1.1.2.1 (hP 0 _ rfl) ((X.1.2.2 t0 _ ht).1 n (fun j => va_rf (g j))) hty (fun q => by cases q) (by show ¬ (nI i < 0 ∨ (arrV _ _ _).slots.size ≤ _); rw [arrV_size]; exact vp_in_nI hi hn) ?_ rfl rfl hdg kk
  show (arrV _ _ _).slots[_]? = _
  rw [hcl, arrV_read _ _ hi, hg]
  rfl
theorem rw_iast (X : rw_x p c s m args cc nL own D C) (V : rw_v D a0 w h H0 H locs) {q n i x : Nat} {f : Nat → Nat} (he : w q = some (zz_i (C 0) n f)) (hi : i < n) (hn : n < 2147483648) (hdg : decode cc pc = .ok (.iastore, 1))
    (kk : ∀ (H1 : Heap) (locs1 : List Loc), rw_v D a0 (rw_up w q (zz_i (C 0) n (va_up f i x))) h H0 H1 locs1 → W p l e R s m args below meth c H1 locs1 cells slots Q (F0 m (pc + 1) ls rest)) : W p l e R s m args below meth c H locs cells slots Q (F0 m pc ls (.int (nI x) :: .int (nI i) :: .ref q :: rest)) := by
  have hP := rw_P V he
  have hcl : (nI i).toNatClampNeg = i := nI_clamp (show i < 2 ^ 31 by omega)
  refine W.iast X.1.1.1 X.1.1.2.1 (hP 0 _ rfl) ((X.1.2.2 0 _ rfl).1 n (fun j => .int (nI (f j)))) (fun q => by cases q) (by show ¬ (nI i < 0 ∨ (arrV _ _ _).slots.size ≤ _); rw [arrV_size]; exact vp_in_nI hi hn) rfl rfl hdg fun H1 e z oq => ?_
  refine kk H1 _ (rw_set V he z oq ?_)
  show H1[q]? = some (vp_cell _ _)
  rw [e]
  rw [vp_cell_i, vp_cell_i, arrV_store, hcl]
  congr 2
  funext x9
  by_cases hq : x9 = i
  · subst hq
    simp [updV, va_up]
  · simp [updV, va_up, hq]
theorem rw_zast (X : rw_x p c s m args cc nL own D C) (V : rw_v D a0 w h H0 H locs) {q n i x : Nat} {f : Nat → Nat} (he : w q = some (zz_i (C 1) n f)) (hi : i < n) (hn : n < 2147483648) (hx : x < 2) (hdg : decode cc pc = .ok (.bastore, 1))
    (kk : ∀ (H1 : Heap) (locs1 : List Loc), rw_v D a0 (rw_up w q (zz_i (C 1) n (va_up f i x))) h H0 H1 locs1 → W p l e R s m args below meth c H1 locs1 cells slots Q (F0 m (pc + 1) ls rest)) : W p l e R s m args below meth c H locs cells slots Q (F0 m pc ls (.int (nI x) :: .int (nI i) :: .ref q :: rest)) := by
  have hP := rw_P V he
  have hcl : (nI i).toNatClampNeg = i := nI_clamp (show i < 2 ^ 31 by omega)
  have hnx : narrow .boolean (.int (nI x)) = .int (nI x) := by
    rcases (show x = 0 ∨ x = 1 by omega) with rfl | rfl <;> decide
  refine W.zast X.1.1.1 X.1.1.2.1 (hP 0 _ rfl) ((X.1.2.2 1 _ rfl).1 n (fun j => .int (nI (f j)))) (fun q => by cases q) (by show ¬ (nI i < 0 ∨ (arrV _ _ _).slots.size ≤ _); rw [arrV_size]; exact vp_in_nI hi hn) rfl rfl hdg fun H1 e z oq => ?_
  refine kk H1 _ (rw_set V he z oq ?_)
  show H1[q]? = some (vp_cell _ _)
  rw [e]
  rw [vp_cell_i, vp_cell_i, arrV_store, hcl]
  congr 2
  funext x9
  by_cases hq : x9 = i
  · subst hq
    simp [updV, va_up, hnx]
  · simp [updV, va_up, hq]
theorem rw_store {q n i v : Nat} {g : Nat → Option Nat} {cA : ClassId} {H1 : Heap} (e : H1[q]? = some ((vp_cell cA (n, .inr (.inr (.inr (.inr g))))).setSlot i (.ref v))) : va_at D CLS (q, rw_q cA n (va_up g i (some v))) H1 := by
  show H1[q]? = some (vp_cell _ _)
  rw [e]
  rw [vp_cell_q, vp_cell_q, arrV_store]
  congr 2
  funext x9
  by_cases hq : x9 = i
  · subst hq
    simp [updV, va_up, va_rf]
  · simp [updV, va_up, hq]
/-- an object into an array of its class -/
theorem rw_aast (X : rw_x p c s m args cc nL own D C) (V : rw_v D a0 w h H0 H locs) {q n i v : Nat} {g : Nat → Option Nat} {vs : List Value} (he : w q = some (rw_q (C 3) n g)) (hv : w v = some (.inr (2, vs))) (hi : i < n) (hn : n < 2147483648) (hdg : decode cc pc = .ok (.aastore, 1))
    (kk : ∀ (H1 : Heap) (locs1 : List Loc), rw_v D a0 (rw_up w q (rw_q (C 3) n (va_up g i (some v)))) h H0 H1 locs1 → W p l e R s m args below meth c H1 locs1 cells slots Q (F0 m (pc + 1) ls rest)) : W p l e R s m args below meth c H locs cells slots Q (F0 m pc ls (.ref v :: .int (nI i) :: .ref q :: rest)) := by
  have hcl : (nI i).toNatClampNeg = i := nI_clamp (show i < 2 ^ 31 by omega)
  obtain ⟨r', hr', cellV, g1, g2, g3, -⟩ := (V.2.1.2 v _ hv).2
  have hcls := (X.1.2.1 2 _ rfl).2
  obtain ⟨kA, comp, k1, k2, k3, -⟩ := (X.1.2.2 3 _ rfl).2
  have hcomp : comp = D.1 2 := Option.some.inj (k3.symm.trans hcls.1)
  subst hcomp
  obtain ⟨kC, hkC, -⟩ := hcls.2
  refine W.aast X.1.1.1 X.1.1.2.1 (rw_P V he 0 _ rfl) (fun q h => by cases h) (fun h => by cases h) k1 k2 rfl hkC ⟨nI_pos (by omega), by show _ < (arrV _ _ _).slots.size; rw [arrV_size, hcl]; exact hi⟩ g1 (fun q h => by rw [g3] at h; cases h) (by rw [g2]; exact hkC) (by rw [g2]; exact va_assign hcls) rfl rfl hdg fun H1 e z oq => ?_
  rw [hcl] at e
  exact kk H1 _ (rw_set V he z oq (rw_store e))
/-- an array of ints into an array of such -/
theorem rw_aastA (X : rw_x p c s m args cc nL own D C) (V : rw_v D a0 w h H0 H locs) {q n i v n2 : Nat} {g : Nat → Option Nat} {f2 : Nat → Nat} (he : w q = some (rw_q (C 2) n g)) (hv : w v = some (zz_i (C 0) n2 f2)) (hi : i < n) (hn : n < 2147483648) (hdg : decode cc pc = .ok (.aastore, 1))
    (kk : ∀ (H1 : Heap) (locs1 : List Loc), rw_v D a0 (rw_up w q (rw_q (C 2) n (va_up g i (some v)))) h H0 H1 locs1 → W p l e R s m args below meth c H1 locs1 cells slots Q (F0 m (pc + 1) ls rest)) : W p l e R s m args below meth c H locs cells slots Q (F0 m pc ls (.ref v :: .int (nI i) :: .ref q :: rest)) := by
  have hcl : (nI i).toNatClampNeg = i := nI_clamp (show i < 2 ^ 31 by omega)
  obtain ⟨comp, cA2, kA, k3, -, k1, k2, k4⟩ := arrayOverA_spec (show (Cond.arrayOver (.array .int)).before args s = true from X.2.2.1)
  have hR : s.vm.findClass (FieldType.array .int).toString = some (C 0) := (X.1.2.2 0 _ rfl).2
  have g4 : s.vm.findClass ("[" ++ (FieldType.array .int).toString) = some (C 2) := (X.1.2.2 2 _ rfl).2
  have e1 : cA2 = C 2 := Option.some.inj (k4.symm.trans g4)
  have e2 : comp = C 0 := Option.some.inj (k3.symm.trans hR)
  subst e1
  subst e2
  obtain ⟨kE, hkE, -⟩ := Vm.findClass_spec k3
  refine W.aast X.1.1.1 X.1.1.2.1 (rw_P V he 0 _ rfl) (fun q h => by cases h) (fun h => by cases h) k1 k2 rfl hkE ⟨nI_pos (by omega), by show _ < (arrV _ _ _).slots.size; rw [arrV_size, hcl]; exact hi⟩ (rw_P V hv 0 _ rfl) (fun q h => by cases h) (show s.vm.classes[C 0]? = some kE from hkE) (va_asg _ _) rfl rfl hdg fun H1 e z oq => ?_
  rw [hcl] at e
  exact kk H1 _ (rw_set V he z oq (rw_store e))
theorem rw_outer (cA : ClassId) (N h0 : Nat) : ∀ i : Nat, Jvm.Free.Multi.outerC cA N h0 i = arrV cA N (fun j => va_rf (if j < i then some (h0 + 1 + j) else none))
  | 0 => by
    show ({ cls := cA, slots := Array.replicate N .null, vm := .none } : Cell) = _
    rw [arrV_new]
    refine congrArg (arrV cA N) (funext fun j => ?_)
    rw [if_neg (Nat.not_lt_zero _)]
    rfl
  | i + 1 => by
    show (Jvm.Free.Multi.outerC cA N h0 i).setSlot i (.ref (h0 + 1 + i)) = _
    rw [rw_outer cA N h0 i, arrV_store]
    refine congrArg (arrV cA N) (funext fun j => ?_)
    rcases Nat.lt_trichotomy j i with e | e | e
    · simp [updV, Nat.ne_of_lt e, e, Nat.lt_succ_of_lt e]
    · subst e
      simp [updV, va_rf]
    · simp [updV, Nat.ne_of_gt e, show ¬ j < i by omega, show ¬ j < i + 1 by omega]
/-- new int[n][n] -/
def rw_grid (w : rw_M) (C : Nat → ClassId) (h n : Nat) : rw_M := fun a => if a = h then some (rw_q (C 2) n (fun i => if i < n then some (h + 1 + i) else none)) else if h < a ∧ a < h + 1 + n then some (zz_i (C 0) n (fun _ => 0)) else w a
theorem rw_mna (X : rw_x p c s m args cc nL own D C) (V : rw_v D a0 w h H0 H locs) {n index : Nat} (hn : n ≤ 16384) (hcl : Cond.classLink own index "[[I" ∈ WALL) (hcells : cells + (1 + n) ≤ R.cells) (hslots : slots + (n + n * n) ≤ R.slots) (hdg : decode cc pc = .ok (.multianewarray index 2, 4))
    (kk : ∀ (H1 : Heap), rw_v D a0 (rw_grid w C h n) (h + 1 + n) H0 H1 locs → W p l e R s m args below meth c H1 locs (cells + 1 + n) (slots + n + n * n) Q (F0 m (pc + 4) ls (.ref h :: rest))) : W p l e R s m args below meth c H locs cells slots Q (F0 m pc ls (.int (nI n) :: .int (nI n) :: rest)) := by
  have hcl0 : (nI n).toNatClampNeg = n := nI_clamp (by omega)
  have hstr : "[" ++ (FieldType.array .int).toString = "[[I" := by decide +kernel
  intro T hT Xs
  obtain ⟨vm₁, cA, comp, -, fA, fC, hO, -, X', step⟩ := Xs.multianewarray2F (ty := .int) X.1.1.1 X.1.1.2.2.2.1 (by rw [hstr]; exact X.1.1.2.2.2.2 _ hcl) (show (Cond.arrayOver (.array .int)).before args s = true from X.2.2.1) (X.1.1.2.2.2.2 _ wi_104) (g := F0 m pc ls (.int (nI n) :: .int (nI n) :: rest)) rfl (by rw [X.1.1.2.1]; exact hdg) rfl (nI_pos (by omega)) (nI_pos (by omega)) (by rw [hcl0]; omega) (by rw [hcl0]; show n * 4 ≤ _; omega) (by rw [hcl0]; omega) rfl rfl (by rw [hcl0]; exact hcells) (by rw [hcl0]; exact hslots)
  rw [hcl0] at X' step
  have hR : s.vm.findClass (FieldType.array .int).toString = some (C 0) := (X.1.2.2 0 _ rfl).2
  have g4 : s.vm.findClass ("[" ++ (FieldType.array .int).toString) = some (C 2) := (X.1.2.2 2 _ rfl).2
  have e1 : cA = C 2 := Option.some.inj (fA.symm.trans g4)
  have e2 : comp = C 0 := Option.some.inj (fC.symm.trans hR)
  subst e1
  subst e2
  have hTh : (T.setVm vm₁).heap = H := hT
  obtain ⟨f1, f2, -, -⟩ := Jvm.Free.Multi.fill_facts (T.setVm vm₁) (C 2) (C 0) n n (defaultValue .int) n
  have hold : ∀ x : Nat, x < H.size → (Jvm.Free.Multi.fill (T.setVm vm₁) (C 2) (C 0) n n (defaultValue .int) n).heap[x]? = H[x]? := fun x hx => by
    rw [Jvm.Free.Multi.fill_old (T.setVm vm₁) (C 2) (C 0) n n (defaultValue .int) (a := x) (by rw [hTh]; exact hx) n, hTh]
  have hrow : ∀ j : Nat, j < n → (Jvm.Free.Multi.fill (T.setVm vm₁) (C 2) (C 0) n n (defaultValue .int) n).heap[H.size + 1 + j]? = some (Jvm.Free.Multi.innerC (C 0) n (defaultValue .int)) := fun j hj => by
    have := Jvm.Free.Multi.fill_inner (T.setVm vm₁) (C 2) (C 0) n n (defaultValue .int) n j hj
    rw [hTh] at this
    exact this
  generalize hF : Jvm.Free.Multi.fill (T.setVm vm₁) (C 2) (C 0) n n (defaultValue .int) n = F at X' step f1 f2 hold hrow
  rw [hTh, V.1] at f1 f2
  rw [V.1] at hold hrow
  have hTs : T.heap.size = h := by rw [hT]; exact V.1
  rw [hTs] at step
  obtain ⟨hs, ⟨ha, hw⟩, hS⟩ := id V
  have hS1 := hS.1
  have hnew : rw_v D a0 (rw_grid w C h n) (h + 1 + n) H0 F.heap locs := by
    refine ⟨f1, ⟨by omega, fun q e' hq => ?_⟩, by omega, fun q h1 h2 => (hold q (by omega)).trans (hS.2.1 q h1 h2), hS.2.2⟩
    unfold rw_grid at hq
    by_cases c1 : q = h
    · rw [if_pos c1] at hq
      cases hq
      rw [c1]
      refine ⟨by omega, ?_⟩
      show F.heap[h]? = some (vp_cell _ _)
      rw [f2, vp_cell_q, rw_outer]
    · rw [if_neg c1] at hq
      by_cases c2 : h < q ∧ q < h + 1 + n
      · rw [if_pos c2] at hq
        cases hq
        refine ⟨by omega, ?_⟩
        show F.heap[q]? = some (vp_cell _ _)
        have e9 : q = h + 1 + (q - h - 1) := by omega
        rw [e9, hrow _ (by omega), vp_cell_i]
        exact congrArg some (arrV_new _ _ _)
      · rw [if_neg c2] at hq
        exact ⟨(hw q e' hq).1, (hw q e' hq).2.kept (hold q (rw_lt V hq))⟩
  obtain ⟨t, b1, b2⟩ := kk F.heap hnew F rfl X'
  exact ⟨t, step t b1, b2⟩
end
