/-! A method's start and end, and a call, over cells by place. -/
def hw_b (D : va_G) (E : hw_E) (ad : hw_P → Nat) (ok : hw_P → Prop) (T : List (ClassId × FieldType)) (σ : hw_M) (U : State) : Prop := hw_w D E ad ok σ U.heap ∧ va_K D CLS T U
/-- the words of a method: its own code, and all the words -/
abbrev hw_c (y : MethodName) (cy : ByteArray) (maxL : Nat) (ret : Option FieldType) : List Cond := .code y cy maxL ret :: WALL
/-- room for k calls one in the other -/
abbrev hw_r (k : Nat) : Room := { frames := k, cells := 0, slots := 0, locals := 40 * k }
theorem hw_blind {D : va_G} {E : hw_E} {ad : hw_P → Nat} {ok : hw_P → Prop} {T : List (ClassId × FieldType)} {σ : hw_M} {av : List Value} : FrameBlind (va_Pc av (hw_b D E ad ok T σ)) := by
  intro a U g mk q
  obtain ⟨q0, qW, qK⟩ := q
  exact ⟨q0, qW, va_K.moved (u := U) (U := U.calling g mk a) (Vm.Alike.refl U.vm) qK⟩
section
variable {l : Launch} {D : va_G} {E : hw_E} {ad : hw_P → Nat} {ok : hw_P → Prop} {T : List (ClassId × FieldType)} {σ : hw_M} {y : MethodName} {cy : ByteArray} {maxL : Nat} {rm : Room} {av : List Value}
theorem hw_meti {post : Int32 → hw_M → Prop} (hy : plainName y.cls = true) (hlen : (lg_sl av).length ≤ maxL)
    (body : ∀ (p : Program) (e : Env) (s : State) (m : MethodId) (args : Array Value) (below : List Frame) (meth : Method) (c : Code) (ls : Array Slot) (Q : State → Prop), hw_x p c s m args cy maxL y.cls D T →
      (∀ (r : Int32) (σ' : hw_M) (H' : Heap) (locs' : List Loc) (ls' : Array Slot) (pc : Nat), decode cy pc = .ok (.ireturn, 1) → hw_v D E ad ok (hw_A ad ok) σ' s.heap H' locs' → post r σ' → W p l e rm s m args below meth c H' locs' 0 0 Q (F0 m pc ls' [.int r])) →
      hw_v D E ad ok (hw_A ad ok) σ s.heap s.heap [] → lv_has ls maxL (lv_args 0 av) → W p l e rm s m args below meth c s.heap [] 0 0 Q (F0 m 0 ls [])) :
    Met l y (hw_c y cy maxL (some .int)) rm (va_Pc av (hw_b D E ad ok T σ)) (va_Qi post (hw_b D E ad ok T) (hw_A ad ok)) 0 0 (hw_A ad ok) := by
  refine Met.ofW (cc := cy) (maxL := maxL) (ret := some .int) hy rfl ?_
  intro p e s m args below meth c s₁ B hml hv
  obtain ⟨rfl, hW, hK⟩ := hv
  have hts := atoms_spec (ws := hw_c y cy maxL (some .int)) B.pre
  have hown : s.vm.findClass y.cls = some m.cls := findClass_of_methodNamed B.named
  have hlocks := B.notSynchronized
  have hl := lv_entry av (n := maxL) hlen
  rw [lg_entry_eq]
  generalize (lg_sl av ++ List.replicate (maxL - (lg_sl av).length) Slot.unset).toArray = ls at hl ⊢
  refine body p e s m _ below meth c ls _ ⟨⟨B.exec, B.bytes, hml, hown, fun w h => hts w (List.mem_cons_of_mem _ h)⟩, hK⟩ ?_ ⟨hW, fun k h => ⟨k, h, rfl⟩, va_S.rf⟩ hl
  intro r σ' H' locs' ls' pc hd V hp
  exact W.iret (v := r) B.exec B.bytes B.returns (fun t ht hWm => ⟨⟨r, σ', rfl, hp, by rw [ht]; exact V.1, va_K.moved hWm.alike hK⟩, V.2.2.F ht⟩) V.2.2.2.2 hd
theorem hw_metz {post : Nat → hw_M → Prop} (hy : plainName y.cls = true) (hlen : (lg_sl av).length ≤ maxL)
    (body : ∀ (p : Program) (e : Env) (s : State) (m : MethodId) (args : Array Value) (below : List Frame) (meth : Method) (c : Code) (ls : Array Slot) (Q : State → Prop), hw_x p c s m args cy maxL y.cls D T →
      (∀ (b : Nat) (σ' : hw_M) (H' : Heap) (locs' : List Loc) (ls' : Array Slot) (pc : Nat), decode cy pc = .ok (.ireturn, 1) → hw_v D E ad ok (hw_A ad ok) σ' s.heap H' locs' → b < 2 → post b σ' → W p l e rm s m args below meth c H' locs' 0 0 Q (F0 m pc ls' [.int (nI b)])) →
      hw_v D E ad ok (hw_A ad ok) σ s.heap s.heap [] → lv_has ls maxL (lv_args 0 av) → W p l e rm s m args below meth c s.heap [] 0 0 Q (F0 m 0 ls [])) :
    Met l y (hw_c y cy maxL (some .boolean)) rm (va_Pc av (hw_b D E ad ok T σ)) (va_Qi (fun r σ' => ∃ b, b < 2 ∧ r = nI b ∧ post b σ') (hw_b D E ad ok T) (hw_A ad ok)) 0 0 (hw_A ad ok) := by
  refine Met.ofW (cc := cy) (maxL := maxL) (ret := some .boolean) hy rfl ?_
  intro p e s m args below meth c s₁ B hml hv
  obtain ⟨rfl, hW, hK⟩ := hv
  have hts := atoms_spec (ws := hw_c y cy maxL (some .boolean)) B.pre
  have hown : s.vm.findClass y.cls = some m.cls := findClass_of_methodNamed B.named
  have hlocks := B.notSynchronized
  have hl := lv_entry av (n := maxL) hlen
  rw [lg_entry_eq]
  generalize (lg_sl av ++ List.replicate (maxL - (lg_sl av).length) Slot.unset).toArray = ls at hl ⊢
  refine body p e s m _ below meth c ls _ ⟨⟨B.exec, B.bytes, hml, hown, fun w h => hts w (List.mem_cons_of_mem _ h)⟩, hK⟩ ?_ ⟨hW, fun k h => ⟨k, h, rfl⟩, va_S.rf⟩ hl
  intro b σ' H' locs' ls' pc hd V hb hp
  have hnx : narrow .boolean (.int (nI b)) = .int (nI b) := by
    rcases (show b = 0 ∨ b = 1 by omega) with rfl | rfl <;> decide
  exact W.zret (v := nI b) B.exec B.bytes B.returns hnx (fun t ht hWm => ⟨⟨nI b, σ', rfl, ⟨b, hb, rfl, hp⟩, by rw [ht]; exact V.1, va_K.moved hWm.alike hK⟩, V.2.2.F ht⟩) V.2.2.2.2 hd
theorem hw_metv {post : hw_M → Prop} (hy : plainName y.cls = true) (hlen : (lg_sl av).length ≤ maxL)
    (body : ∀ (p : Program) (e : Env) (s : State) (m : MethodId) (args : Array Value) (below : List Frame) (meth : Method) (c : Code) (ls : Array Slot) (Q : State → Prop), hw_x p c s m args cy maxL y.cls D T →
      (∀ (σ' : hw_M) (H' : Heap) (locs' : List Loc) (ls' : Array Slot) (pc : Nat), decode cy pc = .ok (.return_, 1) → hw_v D E ad ok (hw_A ad ok) σ' s.heap H' locs' → post σ' → W p l e rm s m args below meth c H' locs' 0 0 Q (F0 m pc ls' [])) →
      hw_v D E ad ok (hw_A ad ok) σ s.heap s.heap [] → lv_has ls maxL (lv_args 0 av) → W p l e rm s m args below meth c s.heap [] 0 0 Q (F0 m 0 ls [])) :
    Met l y (hw_c y cy maxL none) rm (va_Pc av (hw_b D E ad ok T σ)) (va_Qv post (hw_b D E ad ok T) (hw_A ad ok)) 0 0 (hw_A ad ok) := by
  refine Met.ofW (cc := cy) (maxL := maxL) (ret := none) hy rfl ?_
  intro p e s m args below meth c s₁ B hml hv
  obtain ⟨rfl, hW, hK⟩ := hv
  have hts := atoms_spec (ws := hw_c y cy maxL none) B.pre
  have hown : s.vm.findClass y.cls = some m.cls := findClass_of_methodNamed B.named
  have hlocks := B.notSynchronized
  have hl := lv_entry av (n := maxL) hlen
  rw [lg_entry_eq]
  generalize (lg_sl av ++ List.replicate (maxL - (lg_sl av).length) Slot.unset).toArray = ls at hl ⊢
  refine body p e s m _ below meth c ls _ ⟨⟨B.exec, B.bytes, hml, hown, fun w h => hts w (List.mem_cons_of_mem _ h)⟩, hK⟩ ?_ ⟨hW, fun k h => ⟨k, h, rfl⟩, va_S.rf⟩ hl
  intro σ' H' locs' ls' pc hd V hp
  exact W.vret B.exec B.bytes B.returns (fun t ht hWm => ⟨⟨σ', rfl, hp, by rw [ht]; exact V.1, va_K.moved hWm.alike hK⟩, V.2.2.F ht⟩) V.2.2.2.2 hd
end
section
variable {p : Program} {l : Launch} {e : Env} {R : Room} {s : State} {m : MethodId} {args : Array Value} {below : List Frame} {meth : Method} {c : Code} {H : Heap} {locs : List Loc} {cells slots : Nat} {Q : State → Prop}
variable {cc : ByteArray} {nL pc : Nat} {own : String} {ls : Array Slot} {rest st0 : List Value} {D : va_G} {T : List (ClassId × FieldType)} {E : hw_E} {ad : hw_P → Nat} {ok : hw_P → Prop} {A : Nat → Prop} {σ : hw_M} {H0 : Heap}
variable {y : MethodName} {cy : ByteArray} {maxL n index : Nat} {rm : Room} {As : List Value} {ret : Option FieldType}
theorem hw_good : GoodIn WALL WALL := fun w hw => ⟨hw, good_of_word (List.all_eq_true.mp hw_words w hw)⟩
theorem hw_goodc (hc : Cond.code y cy maxL ret ∈ WALL) : GoodIn WALL (hw_c y cy maxL ret) := by
  intro w hw
  rcases List.mem_cons.mp hw with h | h
  · rw [h]; exact hw_good _ hc
  · exact hw_good _ h
/-- what a call's site must show, apart from the room -/
abbrev hw_s (own : String) (index : Nat) (C : String) (y : MethodName) (cy : ByteArray) (maxL : Nat) (ret : Option FieldType) (n : Nat) : Prop :=
  Cond.methodLink own index y ∈ WALL ∧ Cond.instanceMethod y ∈ WALL ∧ Cond.selects C y y ∈ WALL ∧ Cond.initialized y.cls ∈ WALL ∧ Cond.code y cy maxL ret ∈ WALL ∧ (y.cls ≠ "java/lang/invoke/MethodHandle" ∧ y.cls ≠ "java/lang/invoke/VarHandle" ∧ (parseMethodDescriptor y.desc).map (fun d => d.parameters.length) = some n)
theorem hw_cw {C : String} (X : hw_x p c s m args cc nL own D T) (h : hw_s own index C y cy maxL ret n) (hR : rm.cells = 0 ∧ rm.slots = 0 ∧ rm.frames + 1 ≤ R.frames ∧ 8 + (maxL + 11) + rm.locals ≤ R.locals) : CallW R s args own C index y cy maxL ret (hw_c y cy maxL ret) rm 0 0 n :=
  ⟨callB_of n X.1.2.2.2.2 (hw_goodc h.2.2.2.2.1) rfl hR.1 hR.2.1 (X.1.2.2.2.2 _ h.2.2.2.1) (X.1.2.2.2.2 _ h.1) h.2.2.2.2.2 ⟨hR.2.2.1, hR.2.2.2⟩, X.1.2.2.2.2 _ h.2.1, X.1.2.2.2.2 _ h.2.2.1⟩
theorem hw_Ain (V : hw_v D E ad ok A σ H0 H locs) : ∀ q, hw_A ad ok q → A q := fun q h => by obtain ⟨k, hk, e⟩ := h; rw [← e]; exact V.2.1 k hk
/-- a call of an own method that answers an int or a boolean -/
theorem hw_calli {post : Int32 → hw_M → Prop} {C : String} {Tb : u_T} {Nf ci : Nat} {fs : List Value} (X : hw_x p c s m args cc nL own D T) (V : hw_v D E ad ok A σ H0 H locs) {k : hw_P} (ho : ok k) (he : E k (σ k) = .inr (ci, fs)) (hc : CLS[ci]? = some (C, Tb, Nf))
    (hM : Met l y (hw_c y cy maxL ret) rm (va_Pc (.ref (ad k) :: As) (hw_b D E ad ok T σ)) (va_Qi post (hw_b D E ad ok T) (hw_A ad ok)) 0 0 (hw_A ad ok)) (hs : hw_s own index C y cy maxL ret n) (hR : rm.cells = 0 ∧ rm.slots = 0 ∧ rm.frames + 1 ≤ R.frames ∧ 8 + (maxL + 11) + rm.locals ≤ R.locals)
    (hn : As.length = n) (hl : ls.size = nL) (hstk : st0 = As.reverse ++ .ref (ad k) :: rest) (hroom : (rest.map fun v => v.category).sum ≤ 8) (hf : cells ≤ R.cells ∧ slots ≤ R.slots) (hdg : decode cc pc = .ok (.invokevirtual index, 3))
    (kk : ∀ (r : Int32) (σ' : hw_M) (H1 : Heap) (locs1 : List Loc), hw_v D E ad ok A σ' H0 H1 locs1 → post r σ' → W p l e R s m args below meth c H1 locs1 cells slots Q (F0 m (pc + 3) ls (.int r :: rest))) : W p l e R s m args below meth c H locs cells slots Q (F0 m pc ls st0) := by
  refine va_calli (va_runV (rest := rest) X.1 hM (hw_cw X hs hR) ⟨hw_blind, va_recv (q0 := 0) X.2 (hw_cell V ho he) hc rfl, fun U hU hW => ⟨rfl, by rw [hU]; exact V.1, va_K.moved hW.alike X.2⟩⟩ rfl hn hl hstk (lv_room hroom) hdg ⟨hf.1, hf.2⟩) V.2.2 (fun q _ h => hw_Ain V q h) (hw_Ain V) (fun r u t H1 locs1 ht hvm hp hB hz hk hS => ?_)
  have hB1 := hB.1
  rw [ht] at hB1
  exact kk r u H1 locs1 ⟨hB1, V.2.1, hS⟩ hp
theorem hw_callv {post : hw_M → Prop} {C : String} {Tb : u_T} {Nf ci : Nat} {fs : List Value} (X : hw_x p c s m args cc nL own D T) (V : hw_v D E ad ok A σ H0 H locs) {k : hw_P} (ho : ok k) (he : E k (σ k) = .inr (ci, fs)) (hc : CLS[ci]? = some (C, Tb, Nf))
    (hM : Met l y (hw_c y cy maxL ret) rm (va_Pc (.ref (ad k) :: As) (hw_b D E ad ok T σ)) (va_Qv post (hw_b D E ad ok T) (hw_A ad ok)) 0 0 (hw_A ad ok)) (hs : hw_s own index C y cy maxL ret n) (hR : rm.cells = 0 ∧ rm.slots = 0 ∧ rm.frames + 1 ≤ R.frames ∧ 8 + (maxL + 11) + rm.locals ≤ R.locals)
    (hn : As.length = n) (hl : ls.size = nL) (hstk : st0 = As.reverse ++ .ref (ad k) :: rest) (hroom : (rest.map fun v => v.category).sum ≤ 8) (hf : cells ≤ R.cells ∧ slots ≤ R.slots) (hdg : decode cc pc = .ok (.invokevirtual index, 3))
    (kk : ∀ (σ' : hw_M) (H1 : Heap) (locs1 : List Loc), hw_v D E ad ok A σ' H0 H1 locs1 → post σ' → W p l e R s m args below meth c H1 locs1 cells slots Q (F0 m (pc + 3) ls rest)) : W p l e R s m args below meth c H locs cells slots Q (F0 m pc ls st0) := by
  refine va_callv (va_runV (rest := rest) X.1 hM (hw_cw X hs hR) ⟨hw_blind, va_recv (q0 := 0) X.2 (hw_cell V ho he) hc rfl, fun U hU hW => ⟨rfl, by rw [hU]; exact V.1, va_K.moved hW.alike X.2⟩⟩ rfl hn hl hstk (lv_room hroom) hdg ⟨hf.1, hf.2⟩) V.2.2 (fun q _ h => hw_Ain V q h) (hw_Ain V) (fun u t H1 locs1 ht hvm hp hB hz hk hS => ?_)
  have hB1 := hB.1
  rw [ht] at hB1
  exact kk u H1 locs1 ⟨hB1, V.2.1, hS⟩ hp
end
