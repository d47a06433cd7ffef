/-! Constructors: cells by address; what is made lies behind all that was there. -/
abbrev rw_M : Type := Nat → Option va_E
def rw_up (w : rw_M) (q : Nat) (e : va_E) : rw_M := fun a => if a = q then some e else w a
theorem rw_at {w : rw_M} {q : Nat} {e : va_E} : rw_up w q e q = some e := if_pos rfl
theorem rw_ne {w : rw_M} {q a : Nat} {e : va_E} {x : Option va_E} (h : a ≠ q) (h2 : w a = x) : rw_up w q e a = x := (if_neg h).trans h2
theorem rw_eq {w : rw_M} {q a : Nat} {e e2 : va_E} (h : a = q) (h2 : e = e2) : rw_up w q e a = some e2 := by rw [h, h2]; exact rw_at
abbrev rw_T (C : Nat → ClassId) : List (ClassId × FieldType) := [(C 0, .int), (C 1, .boolean), (C 2, .array .int), (C 3, .object "CollectedGroup$Subgroup")]
def rw_aa (U : State) : Prop := (Cond.arrayOver (.array .int)).before #[] U = true ∧ va_Nw (.castable "[I" "java/lang/Cloneable") U
theorem rw_aa.moved {u U : State} (hvm : u.vm.Alike U.vm) (h : rw_aa u) : rw_aa U := by
  obtain ⟨h, hcast⟩ := h
  refine ⟨?_, va_tabs rfl (rfl : (u.setVm U.vm).vm = U.vm) (by rw [Cond.castable_setVm hvm]; exact hcast)⟩
  obtain ⟨comp, cA, k, g1, g2, g3, g4, g5⟩ := arrayOverA_spec h
  obtain ⟨k', hk', he⟩ := hvm.2.2 _ _ g3
  have hi : (U.vm.classes.findIdx? fun (x : Class) => match x.kind with | .array component _ => component == comp | _ => false) = some cA := by
    have a1 := va_idx_bare U.vm comp
    have a2 := va_idx_bare u.vm comp
    first | rw [hvm.bare_eq] at a1 | rw [← hvm.bare_eq] at a1
    exact a1.symm.trans (a2.trans g2)
  have hkind : k'.kind = .array comp (.array .int) := by rw [he]; exact g4
  have f1 : U.vm.findClass (FieldType.array .int).toString = some comp := by rw [hvm.findClass]; exact g1
  have f2 : U.vm.findClass ("[" ++ (FieldType.array .int).toString) = some cA := by rw [hvm.findClass]; exact g5
  unfold Cond.before Cond.holds
  simp only [Cond.value]
  rw [f1, Option.bind_some]
  refine (congrArg (fun o : Option Nat => (o.bind (fun c => (U.vm.classes[c]?).map fun (k : Class) => match k.kind with | .array _ ty => decide (ty = FieldType.array .int) && decide (U.vm.findClass ("[" ++ (FieldType.array .int).toString) = some c) | _ => false) == some true)) hi).trans ?_
  simp [hk', hkind, f2]
/-- the classes, the array classes, arrays over them -/
def rw_K (D : va_G) (C : Nat → ClassId) (U : State) : Prop := va_K D CLS (rw_T C) U ∧ va_AO "CollectedGroup$Subgroup" U ∧ rw_aa U
theorem rw_K.moved {D : va_G} {C : Nat → ClassId} {u U : State} (hvm : u.vm.Alike U.vm) (h : rw_K D C u) : rw_K D C U := ⟨va_K.moved hvm h.1, va_AO.moved hvm h.2.1, rw_aa.moved hvm h.2.2⟩
def rw_w (D : va_G) (a0 : Nat) (w : rw_M) (H : Heap) : Prop := a0 ≤ H.size ∧ ∀ q e, w q = some e → a0 ≤ q ∧ va_at D CLS (q, e) H
abbrev rw_A (a0 : Nat) : Nat → Prop := fun q => a0 ≤ q
def rw_v (D : va_G) (a0 : Nat) (w : rw_M) (h : Nat) (H0 H : Heap) (locs : List Loc) : Prop := H.size = h ∧ rw_w D a0 w H ∧ va_S (rw_A a0) H0 H locs
def rw_b (D : va_G) (C : Nat → ClassId) (a0 : Nat) (u : rw_M × Nat) (U : State) : Prop := U.heap.size = u.2 ∧ rw_w D a0 u.1 U.heap ∧ rw_K D C U
def rw_x (p : Program) (c : Code) (s : State) (m : MethodId) (args : Array Value) (cc : ByteArray) (nL : Nat) (own : String) (D : va_G) (C : Nat → ClassId) : Prop := hw_x p c s m args cc nL own D (rw_T C) ∧ va_AO "CollectedGroup$Subgroup" s ∧ rw_aa s
/-- room for k calls one in the other, and what they make -/
abbrev rw_r (k mc ms : Nat) : Room := { frames := k, cells := mc, slots := ms, locals := 40 * k }
theorem rw_blind {D : va_G} {C : Nat → ClassId} {a0 : Nat} {u : rw_M × Nat} {av : List Value} : FrameBlind (va_Pc av (rw_b D C a0 u)) := by
  intro a U g mk q
  obtain ⟨q0, qS, qW, qK⟩ := q
  exact ⟨q0, qS, qW, rw_K.moved (u := U) (U := U.calling g mk a) (Vm.Alike.refl U.vm) qK⟩
theorem rw_lt {D : va_G} {a0 h : Nat} {w : rw_M} {H0 H : Heap} {locs : List Loc} (V : rw_v D a0 w h H0 H locs) {q : Nat} {e : va_E} (hq : w q = some e) : q < h := by
  have := (V.2.1.2 q e hq).2.lt
  rw [V.1] at this
  exact this
theorem rw_push {D : va_G} {a0 h : Nat} {w : rw_M} {H0 H : Heap} {locs : List Loc} (V : rw_v D a0 w h H0 H locs) {e : va_E} {H1 : Heap} (z1 : H1.size = h + 1) (o1 : ∀ q : Nat, q < h → H1[q]? = H[q]?) (e1 : va_at D CLS (h, e) H1) : rw_v D a0 (rw_up w h e) (h + 1) H0 H1 locs := by
  obtain ⟨hs, ⟨ha, hw⟩, hS⟩ := id V
  have hS1 := hS.1
  refine ⟨z1, ⟨by omega, fun q e' hq => ?_⟩, by omega, fun q h1 h2 => (o1 q (by omega)).trans (hS.2.1 q h1 h2), hS.2.2⟩
  unfold rw_up at hq
  by_cases c : q = h
  · rw [if_pos c] at hq
    cases hq
    rw [c]
    exact ⟨by omega, e1⟩
  · rw [if_neg c] at hq
    exact ⟨(hw q e' hq).1, (hw q e' hq).2.kept (o1 q (rw_lt V hq))⟩
theorem rw_set {D : va_G} {a0 h : Nat} {w : rw_M} {H0 H : Heap} {locs : List Loc} (V : rw_v D a0 w h H0 H locs) {q k : Nat} {e0 e : va_E} (he : w q = some e0) {H1 : Heap} (z1 : H1.size = H.size) (oq : ∀ x : Nat, x ≠ q → H1[x]? = H[x]?) (e1 : va_at D CLS (q, e) H1) : rw_v D a0 (rw_up w q e) h H0 H1 (locs ++ [⟨q, k⟩]) := by
  obtain ⟨hs, ⟨ha, hw⟩, hS⟩ := id V
  refine ⟨z1.trans hs, ⟨by omega, fun x e' hq => ?_⟩, hS.put z1 oq (hw q e0 he).1⟩
  unfold rw_up at hq
  by_cases c : x = q
  · rw [if_pos c] at hq
    cases hq
    rw [c]
    exact ⟨(hw q e0 he).1, e1⟩
  · rw [if_neg c] at hq
    exact ⟨(hw x e' hq).1, (hw x e' hq).2.kept (oq x c)⟩
section
variable {l : Launch} {D : va_G} {C : Nat → ClassId} {a0 : Nat} {u : rw_M × Nat} {y : MethodName} {cy : ByteArray} {maxL k mc ms : Nat} {av : List Value}
theorem rw_metv {post : rw_M × Nat → Prop} (hy : plainName y.cls = true) (hlen : (lg_sl av).length ≤ maxL)
    (body : ∀ (p : Program) (e : Env) (s : State) (m : MethodId) (args : Array Value) (below : List Frame) (meth : Method) (c : Code) (ls : Array Slot) (Q : State → Prop), rw_x p c s m args cy maxL y.cls D C → meth.name = y.name →
      (∀ (w' : rw_M) (h' : Nat) (H' : Heap) (locs' : List Loc) (ls' : Array Slot) (pc : Nat), decode cy pc = .ok (.return_, 1) → rw_v D a0 w' h' s.heap H' locs' → post (w', h') → W p l e (rw_r k mc ms) s m args below meth c H' locs' mc ms Q (F0 m pc ls' [])) →
      rw_v D a0 u.1 u.2 s.heap s.heap [] → lv_has ls maxL (lv_args 0 av) → W p l e (rw_r k mc ms) s m args below meth c s.heap [] 0 0 Q (F0 m 0 ls [])) :
    Met l y (hw_c y cy maxL none) (rw_r k mc ms) (va_Pc av (rw_b D C a0 u)) (va_Qv post (rw_b D C a0) (rw_A a0)) mc ms (rw_A a0) := by
  refine Met.ofW (cc := cy) (maxL := maxL) (ret := none) hy rfl ?_
  intro p e s m args below meth c s₁ B hml hv
  obtain ⟨rfl, hsz, hW, hK⟩ := hv
  have hts := atoms_spec (ws := hw_c y cy maxL none) B.pre
  have hown : s.vm.findClass y.cls = some m.cls := findClass_of_methodNamed B.named
  have hnm : meth.name = y.name := (name_of_methodNamed B.named B.method).1
  have hlocks := B.notSynchronized
  have hl := lv_entry av (n := maxL) hlen
  rw [lg_entry_eq]
  generalize (lg_sl av ++ List.replicate (maxL - (lg_sl av).length) Slot.unset).toArray = ls at hl ⊢
  refine body p e s m _ below meth c ls _ ⟨⟨⟨B.exec, B.bytes, hml, hown, fun w h => hts w (List.mem_cons_of_mem _ h)⟩, hK.1⟩, hK.2⟩ hnm ?_ ⟨hsz, hW, va_S.rf⟩ hl
  intro w' h' H' locs' ls' pc hd V hp
  exact W.vret B.exec B.bytes B.returns (fun t ht hWm => ⟨⟨(w', h'), rfl, hp, by rw [ht]; exact V.1, by rw [ht]; exact V.2.1, rw_K.moved hWm.alike hK⟩, V.2.2.F ht⟩) V.2.2.2.2 hd
theorem rw_meti {post : Int32 → rw_M × Nat → Prop} (hy : plainName y.cls = true) (hlen : (lg_sl av).length ≤ maxL)
    (body : ∀ (p : Program) (e : Env) (s : State) (m : MethodId) (args : Array Value) (below : List Frame) (meth : Method) (c : Code) (ls : Array Slot) (Q : State → Prop), rw_x p c s m args cy maxL y.cls D C → meth.name = y.name →
      (∀ (r : Int32) (w' : rw_M) (h' : Nat) (H' : Heap) (locs' : List Loc) (ls' : Array Slot) (pc : Nat), decode cy pc = .ok (.ireturn, 1) → rw_v D a0 w' h' s.heap H' locs' → post r (w', h') → W p l e (rw_r k mc ms) s m args below meth c H' locs' mc ms Q (F0 m pc ls' [.int r])) →
      rw_v D a0 u.1 u.2 s.heap s.heap [] → lv_has ls maxL (lv_args 0 av) → W p l e (rw_r k mc ms) s m args below meth c s.heap [] 0 0 Q (F0 m 0 ls [])) :
    Met l y (hw_c y cy maxL (some .int)) (rw_r k mc ms) (va_Pc av (rw_b D C a0 u)) (va_Qi post (rw_b D C a0) (rw_A a0)) mc ms (rw_A a0) := by
  refine Met.ofW (cc := cy) (maxL := maxL) (ret := some .int) hy rfl ?_
  intro p e s m args below meth c s₁ B hml hv
  obtain ⟨rfl, hsz, hW, hK⟩ := hv
  have hts := atoms_spec (ws := hw_c y cy maxL (some .int)) B.pre
  have hown : s.vm.findClass y.cls = some m.cls := findClass_of_methodNamed B.named
  have hnm : meth.name = y.name := (name_of_methodNamed B.named B.method).1
  have hlocks := B.notSynchronized
  have hl := lv_entry av (n := maxL) hlen
  rw [lg_entry_eq]
  generalize (lg_sl av ++ List.replicate (maxL - (lg_sl av).length) Slot.unset).toArray = ls at hl ⊢
  refine body p e s m _ below meth c ls _ ⟨⟨⟨B.exec, B.bytes, hml, hown, fun w h => hts w (List.mem_cons_of_mem _ h)⟩, hK.1⟩, hK.2⟩ hnm ?_ ⟨hsz, hW, va_S.rf⟩ hl
  intro r w' h' H' locs' ls' pc hd V hp
  exact W.iret (v := r) B.exec B.bytes B.returns (fun t ht hWm => ⟨⟨r, (w', h'), rfl, hp, by rw [ht]; exact V.1, by rw [ht]; exact V.2.1, rw_K.moved hWm.alike hK⟩, V.2.2.F ht⟩) V.2.2.2.2 hd
theorem rw_metz {post : Nat → rw_M × Nat → Prop} (hy : plainName y.cls = true) (hlen : (lg_sl av).length ≤ maxL)
    (body : ∀ (p : Program) (e : Env) (s : State) (m : MethodId) (args : Array Value) (below : List Frame) (meth : Method) (c : Code) (ls : Array Slot) (Q : State → Prop), rw_x p c s m args cy maxL y.cls D C → meth.name = y.name →
      (∀ (b : Nat) (w' : rw_M) (h' : Nat) (H' : Heap) (locs' : List Loc) (ls' : Array Slot) (pc : Nat), decode cy pc = .ok (.ireturn, 1) → rw_v D a0 w' h' s.heap H' locs' → b < 2 → post b (w', h') → W p l e (rw_r k mc ms) s m args below meth c H' locs' mc ms Q (F0 m pc ls' [.int (nI b)])) →
      rw_v D a0 u.1 u.2 s.heap s.heap [] → lv_has ls maxL (lv_args 0 av) → W p l e (rw_r k mc ms) s m args below meth c s.heap [] 0 0 Q (F0 m 0 ls [])) :
    Met l y (hw_c y cy maxL (some .boolean)) (rw_r k mc ms) (va_Pc av (rw_b D C a0 u)) (va_Qi (fun r u' => ∃ b, b < 2 ∧ r = nI b ∧ post b u') (rw_b D C a0) (rw_A a0)) mc ms (rw_A a0) := by
  refine Met.ofW (cc := cy) (maxL := maxL) (ret := some .boolean) hy rfl ?_
  intro p e s m args below meth c s₁ B hml hv
  obtain ⟨rfl, hsz, hW, hK⟩ := hv
  have hts := atoms_spec (ws := hw_c y cy maxL (some .boolean)) B.pre
  have hown : s.vm.findClass y.cls = some m.cls := findClass_of_methodNamed B.named
  have hnm : meth.name = y.name := (name_of_methodNamed B.named B.method).1
  have hlocks := B.notSynchronized
  have hl := lv_entry av (n := maxL) hlen
  rw [lg_entry_eq]
  generalize (lg_sl av ++ List.replicate (maxL - (lg_sl av).length) Slot.unset).toArray = ls at hl ⊢
  refine body p e s m _ below meth c ls _ ⟨⟨⟨B.exec, B.bytes, hml, hown, fun w h => hts w (List.mem_cons_of_mem _ h)⟩, hK.1⟩, hK.2⟩ hnm ?_ ⟨hsz, hW, va_S.rf⟩ hl
  intro b w' h' H' locs' ls' pc hd V hb hp
  have hnx : narrow .boolean (.int (nI b)) = .int (nI b) := by
    rcases (show b = 0 ∨ b = 1 by omega) with rfl | rfl <;> decide
  exact W.zret (v := nI b) B.exec B.bytes B.returns hnx (fun t ht hWm => ⟨⟨nI b, (w', h'), rfl, ⟨b, hb, rfl, hp⟩, by rw [ht]; exact V.1, by rw [ht]; exact V.2.1, rw_K.moved hWm.alike hK⟩, V.2.2.F ht⟩) V.2.2.2.2 hd
end
section
variable {p : Program} {l : Launch} {e : Env} {R : Room} {s : State} {m : MethodId} {args : Array Value} {below : List Frame} {meth : Method} {c : Code} {H : Heap} {locs : List Loc} {cells slots : Nat} {Q : State → Prop}
variable {cc : ByteArray} {nL pc : Nat} {own : String} {ls : Array Slot} {rest st0 : List Value} {D : va_G} {C : Nat → ClassId} {a0 h : Nat} {w : rw_M} {H0 : Heap}
theorem rw_P (V : rw_v D a0 w h H0 H locs) {q : Nat} {x : va_E} (he : w q = some x) : va_P D CLS [(q, x)] H := by
  intro i y hy
  cases i with
  | zero =>
    have e : (q, x) = y := Option.some.inj hy
    rw [← e]
    exact (V.2.1.2 q x he).2
  | succ i => simp at hy
theorem rw_get (X : rw_x p c s m args cc nL own D C) (V : rw_v D a0 w h H0 H locs) {q : Nat} {Cn ref : String} {Tb : u_T} {Nf ci index : Nat} {fs : List Value} {v : Value} (he : w q = some (.inr (ci, fs))) (hc : CLS[ci]? = some (Cn, Tb, Nf))
    (hin : ∀ w ∈ u_ws Cn Tb Nf, w ∈ WALL) (f : Nat) (hf : f < Nf) (hlink : Cond.fieldLink own index ref (Tb f).2.1 (Tb f).2.2.1 ∈ WALL) (hsame : (Tb f).1 = ref) (hv : fs[f]? = some v) (hdg : decode cc pc = .ok (.getfield index, 3))
    (kk : W p l e R s m args below meth c H locs cells slots Q (F0 m (pc + 3) ls (v :: rest))) : W p l e R s m args below meth c H locs cells slots Q (F0 m pc ls (.ref q :: rest)) :=
  va_get (D := D) (ci := ci) (v := v) (C := Cn) (T := Tb) (N := Nf) X.1.1.1 X.1.1.2.1 X.1.1.2.2.2.2 hin X.1.1.2.2.2.1 X.1.2 (rw_P V he) 0 rfl hc f hf (X.1.1.2.2.2.2 _ hlink) (fun _ h => by rw [← hsame]; exact h) hv hdg kk
theorem rw_put (X : rw_x p c s m args cc nL own D C) (V : rw_v D a0 w h H0 H locs) {q : Nat} {Cn ref : String} {Tb : u_T} {Nf ci index : Nat} {fs : List Value} {v : Value} (he : w q = some (.inr (ci, fs))) (hc : CLS[ci]? = some (Cn, Tb, Nf))
    (hin : ∀ w ∈ u_ws Cn Tb Nf, w ∈ WALL) (ty0 : Nat → FieldType) (hty : ∀ k, k < Nf → parseFieldDescriptor (Tb k).2.2.1 = some (ty0 k)) (hnm : ∀ a, a < Nf → ∀ b, b < Nf → a ≠ b → (Tb a).2.1 ≠ (Tb b).2.1)
    (f : Nat) (hf : f < Nf) (hlink : Cond.fieldLink own index ref (Tb f).2.1 (Tb f).2.2.1 ∈ WALL) (hsame : (Tb f).1 = ref) (hfin : (Tb f).2.2.2 = false) {ty : FieldType} (hd : parseFieldDescriptor (Tb f).2.2.1 = some ty) (hn : narrow ty v = v) (hfit : fits ty v = true) (hl : f < fs.length)
    (hdg : decode cc pc = .ok (.putfield index, 3))
    (kk : ∀ (H1 : Heap) (locs1 : List Loc), rw_v D a0 (rw_up w q (.inr (ci, fs.set f v))) h H0 H1 locs1 → W p l e R s m args below meth c H1 locs1 cells slots Q (F0 m (pc + 3) ls rest)) : W p l e R s m args below meth c H locs cells slots Q (F0 m pc ls (v :: .ref q :: rest)) := by
  have hts := X.1.1.2.2.2.2
  have hK := X.1.2
  have hap := va_apart (own := own) hts hin ty0 hty hnm hK hc
  obtain ⟨r, h1, cell, q1, q2, q3, q4⟩ := (V.2.1.2 q _ he).2
  have hr : r = (Cn, Tb, Nf) := Option.some.inj (h1.symm.trans hc)
  subst hr
  obtain ⟨hS, hfc, kC, hkC, hkind⟩ := hK.1 ci _ hc
  obtain ⟨cf, kf, fi, f0, hi, hsl⟩ := hS f hf
  have hlay := hts _ (hin _ (u_in_lay hf))
  unfold u_lay at hlay
  rw [if_neg (by rw [hfin]; decide)] at hlay
  have hst := (u_facts hfc hkC (u_lays hts hin hf) hi).1
  have h6 := u_store hfc hkC hkind hlay hi hd hn hfit
  subst hsame
  refine W.putK X.1.1.1 X.1.1.2.1 (f := f0) ⟨X.1.1.2.2.2.1, hts _ hlink, ⟨_, _, _, hi⟩, hst⟩ (by rw [q2]; exact h6) q1 q3 (by rw [hsl]; exact k2_hasslot (q4 f hf)) rfl rfl hdg fun H' e1 e2 e3 => ?_
  rw [hsl] at e1 ⊢
  exact kk H' _ (rw_set V he e2 e3 ⟨_, hc, t_OB.to (V := updV (vp_V fs) f v) ⟨_, e1, q2, q3, t_set q4 hap hf v⟩ (fun j _ => vp_updV_set hl v j)⟩)
theorem rw_putF (X : rw_x p c s m args cc nL own D C) (V : rw_v D a0 w h H0 H locs) (hin2 : meth.name = "<init>") {q : Nat} {Cn ref : String} {Tb : u_T} {Nf ci index : Nat} {fs : List Value} {v : Value} (he : w q = some (.inr (ci, fs))) (hc : CLS[ci]? = some (Cn, Tb, Nf))
    (hin : ∀ w ∈ u_ws Cn Tb Nf, w ∈ WALL) (ty0 : Nat → FieldType) (hty : ∀ k, k < Nf → parseFieldDescriptor (Tb k).2.2.1 = some (ty0 k)) (hnm : ∀ a, a < Nf → ∀ b, b < Nf → a ≠ b → (Tb a).2.1 ≠ (Tb b).2.1)
    (f : Nat) (hf : f < Nf) (hlink : Cond.fieldLink own index ref (Tb f).2.1 (Tb f).2.2.1 ∈ WALL) (hsame : (Tb f).1 = ref) (hfin : (Tb f).2.2.2 = true) (hdecl : (Tb f).1 = own) {ty : FieldType} (hd : parseFieldDescriptor (Tb f).2.2.1 = some ty) (hn : narrow ty v = v) (hfit : fits ty v = true) (hl : f < fs.length)
    (hdg : decode cc pc = .ok (.putfield index, 3))
    (kk : ∀ (H1 : Heap) (locs1 : List Loc), rw_v D a0 (rw_up w q (.inr (ci, fs.set f v))) h H0 H1 locs1 → W p l e R s m args below meth c H1 locs1 cells slots Q (F0 m (pc + 3) ls rest)) : W p l e R s m args below meth c H locs cells slots Q (F0 m pc ls (v :: .ref q :: rest)) := by
  have hts := X.1.1.2.2.2.2
  have hK := X.1.2
  have hown := X.1.1.2.2.2.1
  have hap := va_apart (own := own) hts hin ty0 hty hnm hK hc
  obtain ⟨r, h1, cell, q1, q2, q3, q4⟩ := (V.2.1.2 q _ he).2
  have hr : r = (Cn, Tb, Nf) := Option.some.inj (h1.symm.trans hc)
  subst hr
  obtain ⟨hS, hfc, kC, hkC, hkind⟩ := hK.1 ci _ hc
  obtain ⟨cf, kf, fi, f0, hi, hsl⟩ := hS f hf
  have hlay := hts _ (hin _ (u_in_lay hf))
  unfold u_lay at hlay
  rw [if_pos hfin] at hlay
  have hst := (u_facts hfc hkC (u_lays hts hin hf) hi).1
  have hcf : m.cls = cf := by
    obtain ⟨_, _, c', _, _, _, -, -, hf', -, -, -, hown2, -⟩ := Cond.laysFinal_spec hlay
    have e1 : c' = cf := by have := hi.symm.trans hf'; simp at this; exact this.1.symm
    rw [hdecl] at hown2
    rw [← e1]; exact Option.some.inj (hown.symm.trans hown2)
  have h6 := u_fits hfc hkC hkind (Or.inr hlay) hi hd hn hfit
  subst hsame
  refine W.putFinK X.1.1.1 X.1.1.2.1 hown (hts _ hlink) hi hst hcf hin2 (by rw [q2]; exact h6) q1 q3 (by rw [hsl]; exact k2_hasslot (q4 f hf)) rfl rfl hdg fun H' e1 e2 e3 => ?_
  rw [hsl] at e1 ⊢
  exact kk H' _ (rw_set V he e2 e3 ⟨_, hc, t_OB.to (V := updV (vp_V fs) f v) ⟨_, e1, q2, q3, t_set q4 hap hf v⟩ (fun j _ => vp_updV_set hl v j)⟩)
theorem rw_new (X : rw_x p c s m args cc nL own D C) (V : rw_v D a0 w h H0 H locs) {Cn : String} {Tb : u_T} {Nf index : Nat} (ci : Nat) (hc : CLS[ci]? = some (Cn, Tb, Nf)) (hin : ∀ w ∈ u_ws Cn Tb Nf, w ∈ WALL) (ty0 : Nat → FieldType) (hty : ∀ k, k < Nf → parseFieldDescriptor (Tb k).2.2.1 = some (ty0 k))
    (hcl : Cond.classLink own index Cn ∈ WALL) (hinst : Cond.instantiable Cn Nf ∈ WALL) (hini : Cond.initialized Cn ∈ WALL) (fs : List Value) (hfs : ∀ j, j < Nf → defaultValue (ty0 j) = vp_V fs j) (hcells : cells + 1 ≤ R.cells) (hslots : slots + Nf ≤ R.slots) (hdg : decode cc pc = .ok (.new index, 3))
    (kk : ∀ (H1 : Heap), rw_v D a0 (rw_up w h (.inr (ci, fs))) (h + 1) H0 H1 locs → W p l e R s m args below meth c H1 locs (cells + 1) (slots + Nf) Q (F0 m (pc + 3) ls (.ref h :: rest))) : W p l e R s m args below meth c H locs cells slots Q (F0 m pc ls rest) := by
  have hts := X.1.1.2.2.2.2
  have hKn := X.1.2.1 ci _ hc
  refine W.newcK X.1.1.1 X.1.1.2.1 X.1.1.2.2.2.1 (hts _ hcl) (hts _ hinst) (hts _ hini) rfl hdg hcells hslots hKn.2.1 V.1 fun H1 kC hkC e1 z1 o1 => ?_
  exact kk H1 (rw_push V z1 o1 ⟨_, hc, (u_born ty0 hts hin hKn hkC e1 hty).to hfs⟩)
theorem rw_newi (X : rw_x p c s m args cc nL own D C) (V : rw_v D a0 w h H0 H locs) {n : Nat} (hn : n ≤ 16384) (hcells : cells + 1 ≤ R.cells) (hslots : slots + n ≤ R.slots) (hdg : decode cc pc = .ok (.newarray .int, 2))
    (kk : ∀ (H1 : Heap), rw_v D a0 (rw_up w h (zz_i (C 0) n (fun _ => 0))) (h + 1) H0 H1 locs → W p l e R s m args below meth c H1 locs (cells + 1) (slots + n) Q (F0 m (pc + 2) ls (.ref h :: rest))) : W p l e R s m args below meth c H locs cells slots Q (F0 m pc ls (.int (nI n) :: rest)) := by
  refine va_newaK X.1.1.1 X.1.1.2.1 (atype := .int) (X.1.1.2.2.2.2 _ wi_104) rfl hdg rfl (nI_pos (by omega)) (nI_clamp (by omega)) (by show n * 4 ≤ _; omega) hcells hslots V.1 fun H1 cA e1 z1 o1 hAr hNm => ?_
  have h2 : s.vm.findClass ("[" ++ (FieldType.int).toString) = some (C 0) := (X.1.2.2 0 _ rfl).2
  have e2 : cA = C 0 := Option.some.inj (hNm.symm.trans h2)
  subst e2
  exact kk H1 (rw_push V z1 o1 e1)
theorem rw_newz (X : rw_x p c s m args cc nL own D C) (V : rw_v D a0 w h H0 H locs) {n : Nat} (hn : n ≤ 16384) (hcells : cells + 1 ≤ R.cells) (hslots : slots + n ≤ R.slots) (hdg : decode cc pc = .ok (.newarray .boolean, 2))
    (kk : ∀ (H1 : Heap), rw_v D a0 (rw_up w h (zz_i (C 1) n (fun _ => 0))) (h + 1) H0 H1 locs → W p l e R s m args below meth c H1 locs (cells + 1) (slots + n) Q (F0 m (pc + 2) ls (.ref h :: rest))) : W p l e R s m args below meth c H locs cells slots Q (F0 m pc ls (.int (nI n) :: rest)) := by
  refine va_newaK X.1.1.1 X.1.1.2.1 (atype := .boolean) (X.1.1.2.2.2.2 _ wi_132) rfl hdg rfl (nI_pos (by omega)) (nI_clamp (by omega)) (by show n * 1 ≤ _; omega) hcells hslots V.1 fun H1 cA e1 z1 o1 hAr hNm => ?_
  have h2 : s.vm.findClass ("[" ++ (FieldType.boolean).toString) = some (C 1) := (X.1.2.2 1 _ rfl).2
  have e2 : cA = C 1 := Option.some.inj (hNm.symm.trans h2)
  subst e2
  exact kk H1 (rw_push V z1 o1 e1)
/-- arrays of references: nothing in them yet, and one more -/
abbrev rw_q (cA : ClassId) (n : Nat) (g : Nat → Option Nat) : va_E := .inl (cA, n, .inr (.inr (.inr (.inr g))))
theorem rw_newq (X : rw_x p c s m args cc nL own D C) (V : rw_v D a0 w h H0 H locs) {n index : Nat} (hn : n ≤ 16384) (hcl : Cond.classLink own index "CollectedGroup$Subgroup" ∈ WALL) (hcells : cells + 1 ≤ R.cells) (hslots : slots + n ≤ R.slots) (hdg : decode cc pc = .ok (.anewarray index, 3))
    (kk : ∀ (H1 : Heap), rw_v D a0 (rw_up w h (rw_q (C 3) n (fun _ => none))) (h + 1) H0 H1 locs → W p l e R s m args below meth c H1 locs (cells + 1) (slots + n) Q (F0 m (pc + 3) ls (.ref h :: rest))) : W p l e R s m args below meth c H locs cells slots Q (F0 m pc ls (.int (nI n) :: rest)) := by
  have hcl0 : (nI n).toNatClampNeg = n := nI_clamp (by omega)
  refine W.anew X.1.1.1 X.1.1.2.1 X.1.1.2.2.2.1 (X.1.1.2.2.2.2 _ hcl) (va_AO.use X.2.1) rfl hdg rfl (nI_pos (by omega)) (by rw [hcl0]; omega) hcells (by rw [hcl0]; exact hslots) fun cA kA comp f1 f2 f3 f4 => ?_
  obtain ⟨kA2, comp2, g1, g2, g3, g4⟩ := (X.1.2.2 3 _ rfl).2
  have e2 : cA = C 3 := Option.some.inj (f1.symm.trans g4)
  subst e2
  rw [hcl0, V.1]
  refine kk _ (rw_push V (by rw [Array.size_push, V.1]) (fun q hq => by rw [Array.getElem?_push, if_neg (by rw [V.1]; omega)]) ?_)
  show (H.push _)[h]? = some (vp_cell _ _)
  rw [vp_cell_q, ← V.1, Array.getElem?_push_size]
  exact congrArg some (arrV_new _ _ _)
theorem rw_newqA (X : rw_x p c s m args cc nL own D C) (V : rw_v D a0 w h H0 H locs) {n index : Nat} (hn : n ≤ 16384) (hcl : Cond.classLink own index "[I" ∈ WALL) (hcells : cells + 1 ≤ R.cells) (hslots : slots + n ≤ R.slots) (hdg : decode cc pc = .ok (.anewarray index, 3))
    (kk : ∀ (H1 : Heap), rw_v D a0 (rw_up w h (rw_q (C 2) n (fun _ => none))) (h + 1) H0 H1 locs → W p l e R s m args below meth c H1 locs (cells + 1) (slots + n) Q (F0 m (pc + 3) ls (.ref h :: rest))) : W p l e R s m args below meth c H locs cells slots Q (F0 m pc ls (.int (nI n) :: rest)) := by
  have hcl0 : (nI n).toNatClampNeg = n := nI_clamp (by omega)
  have hstr : (FieldType.array .int).toString = "[I" := by decide +kernel
  refine W.anewA (t := .int) X.1.1.1 X.1.1.2.1 X.1.1.2.2.2.1 (by rw [hstr]; exact X.1.1.2.2.2.2 _ hcl) (show (Cond.arrayOver (.array .int)).before args s = true from X.2.2.1) rfl hdg rfl (nI_pos (by omega)) (by rw [hcl0]; omega) hcells (by rw [hcl0]; exact hslots) fun cA kA comp f1 f2 f3 f4 => ?_
  have g4 : s.vm.findClass ("[" ++ (FieldType.array .int).toString) = some (C 2) := (X.1.2.2 2 _ rfl).2
  have e2 : cA = C 2 := Option.some.inj (f1.symm.trans g4)
  subst e2
  rw [hcl0, V.1]
  refine kk _ (rw_push V (by rw [Array.size_push, V.1]) (fun q hq => by rw [Array.getElem?_push, if_neg (by rw [V.1]; omega)]) ?_)
  show (H.push _)[h]? = some (vp_cell _ _)
  rw [vp_cell_q, ← V.1, Array.getElem?_push_size]
  exact congrArg some (arrV_new _ _ _)
end
