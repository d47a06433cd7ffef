/-! Constructors: calls. -/
section
variable {p : Program} {l : Launch} {e : Env} {R : Room} {s : State} {m : MethodId} {args : Array Value} {below : List Frame} {meth : Method} {c : Code} {H : Heap} {locs : List Loc} {cells slots : Nat} {Q : State → Prop}
variable {cc : ByteArray} {nL pc : Nat} {own : String} {ls : Array Slot} {rest st0 : List Value} {D : va_G} {C : Nat → ClassId} {a0 h : Nat} {w : rw_M} {H0 : Heap}
variable {y : MethodName} {cy : ByteArray} {maxL n index k mc ms : Nat} {As : List Value} {ret : Option FieldType}
abbrev rw_s (own : String) (index : Nat) (y : MethodName) (cy : ByteArray) (maxL : Nat) (ret : Option FieldType) (n : Nat) : Prop :=
  Cond.methodLink own index y ∈ WALL ∧ Cond.initialized y.cls ∈ WALL ∧ Cond.code y cy maxL ret ∈ WALL ∧ (y.cls ≠ "java/lang/invoke/MethodHandle" ∧ y.cls ≠ "java/lang/invoke/VarHandle" ∧ (parseMethodDescriptor y.desc).map (fun d => d.parameters.length) = some n)
theorem rw_cb (X : hw_x p c s m args cc nL own D (rw_T C)) (hs : rw_s own index y cy maxL ret n) (hR : k + 1 ≤ R.frames ∧ 8 + (maxL + 11) + 40 * k ≤ R.locals) : CallB R s args own index y cy maxL ret (hw_c y cy maxL ret) (rw_r k mc ms) mc ms n :=
  callB_of n X.1.2.2.2.2 (hw_goodc hs.2.2.1) rfl rfl rfl (X.1.2.2.2.2 _ hs.2.1) (X.1.2.2.2.2 _ hs.1) hs.2.2.2 hR
theorem rw_pre (X : rw_x p c s m args cc nL own D C) (V : rw_v D a0 w h H0 H locs) {av : List Value} : PreS s H (va_Pc av (rw_b D C a0 (w, h))) av :=
  ⟨rw_blind, fun U hU hW => ⟨rfl, by rw [hU]; exact V.1, by rw [hU]; exact V.2.1, rw_K.moved hW.alike ⟨X.1.2, X.2⟩⟩⟩
/-- a constructor is called -/
theorem rw_callI {post : rw_M × Nat → Prop} {b : Nat} (X : rw_x p c s m args cc nL own D C) (V : rw_v D a0 w h H0 H locs)
    (hM : Met l y (hw_c y cy maxL none) (rw_r k mc ms) (va_Pc (.ref b :: As) (rw_b D C a0 (w, h))) (va_Qv post (rw_b D C a0) (rw_A a0)) mc ms (rw_A a0)) (hs : rw_s own index y cy maxL none n) (hi : y.name = "<init>" ∧ Cond.instanceMethod y ∈ WALL) (hR : k + 1 ≤ R.frames ∧ 8 + (maxL + 11) + 40 * k ≤ R.locals)
    (hn : As.length = n) (hl : ls.size = nL) (hstk : st0 = As.reverse ++ .ref b :: rest) (hroom : (rest.map fun v => v.category).sum ≤ 8) (hf : cells + mc ≤ R.cells ∧ slots + ms ≤ R.slots) (hdg : decode cc pc = .ok (.invokespecial index, 3))
    (kk : ∀ (w' : rw_M) (h' : Nat) (H1 : Heap) (locs1 : List Loc), rw_v D a0 w' h' H0 H1 locs1 → post (w', h') → W p l e R s m args below meth c H1 locs1 (cells + mc) (slots + ms) Q (F0 m (pc + 3) ls rest)) : W p l e R s m args below meth c H locs cells slots Q (F0 m pc ls st0) := by
  refine va_callv (va_runI (rest := rest) X.1.1 hM ⟨rw_cb X.1 hs hR, hi.1, X.1.1.2.2.2.2 _ hi.2⟩ (rw_pre X V) rfl hn hl hstk (lv_room hroom) hdg hf) V.2.2 (fun q _ h => h) (fun q h => h) (fun u t H1 locs1 ht hvm hp hB hz hk hS => ?_)
  obtain ⟨hB1, hB2, -⟩ := hB
  rw [ht] at hB1 hB2
  exact kk u.1 u.2 H1 locs1 ⟨hB1, hB2, hS⟩ hp
/-- a static method that answers an int -/
theorem rw_callS {post : Int32 → rw_M × Nat → Prop} (X : rw_x p c s m args cc nL own D C) (V : rw_v D a0 w h H0 H locs)
    (hM : Met l y (hw_c y cy maxL ret) (rw_r k mc ms) (va_Pc As (rw_b D C a0 (w, h))) (va_Qi post (rw_b D C a0) (rw_A a0)) mc ms (rw_A a0)) (hs : rw_s own index y cy maxL ret n) (hi : Cond.static y ∈ WALL) (hR : k + 1 ≤ R.frames ∧ 8 + (maxL + 11) + 40 * k ≤ R.locals)
    (hn : As.length = n) (hl : ls.size = nL) (hstk : st0 = As.reverse ++ rest) (hroom : (rest.map fun v => v.category).sum ≤ 8) (hf : cells + mc ≤ R.cells ∧ slots + ms ≤ R.slots) (hdg : decode cc pc = .ok (.invokestatic index, 3))
    (kk : ∀ (r : Int32) (w' : rw_M) (h' : Nat) (H1 : Heap) (locs1 : List Loc), rw_v D a0 w' h' H0 H1 locs1 → post r (w', h') → W p l e R s m args below meth c H1 locs1 (cells + mc) (slots + ms) Q (F0 m (pc + 3) ls (.int r :: rest))) : W p l e R s m args below meth c H locs cells slots Q (F0 m pc ls st0) := by
  refine va_calli (va_runS (rest := rest) X.1.1 hM ⟨rw_cb X.1 hs hR, X.1.1.2.2.2.2 _ hi⟩ (rw_pre X V) rfl hn hl hstk (lv_room hroom) hdg hf) V.2.2 (fun q _ h => h) (fun q h => h) (fun r u t H1 locs1 ht hvm hp hB hz hk hS => ?_)
  obtain ⟨hB1, hB2, -⟩ := hB
  rw [ht] at hB1 hB2
  exact kk r u.1 u.2 H1 locs1 ⟨hB1, hB2, hS⟩ hp
/-- what a method leaves that answers a reference -/
abbrev rw_B (D : va_G) (C : Nat → ClassId) (a0 : Nat) (u : (rw_M × Nat) × Nat) (ra : Nat) (t : State) : Prop := rw_b D C a0 u.1 t ∧ ra = u.2
theorem rw_callR {post : (rw_M × Nat) × Nat → Prop} (X : rw_x p c s m args cc nL own D C) (V : rw_v D a0 w h H0 H locs)
    (hM : Met l y (hw_c y cy maxL ret) (rw_r k mc ms) (va_Pc As (rw_b D C a0 (w, h))) (va_Qr post (rw_B D C a0) (rw_A a0)) mc ms (rw_A a0)) (hs : rw_s own index y cy maxL ret n) (hi : Cond.static y ∈ WALL) (hR : k + 1 ≤ R.frames ∧ 8 + (maxL + 11) + 40 * k ≤ R.locals)
    (hn : As.length = n) (hl : ls.size = nL) (hstk : st0 = As.reverse ++ rest) (hroom : (rest.map fun v => v.category).sum ≤ 8) (hf : cells + mc ≤ R.cells ∧ slots + ms ≤ R.slots) (hdg : decode cc pc = .ok (.invokestatic index, 3))
    (kk : ∀ (ra : Nat) (w' : rw_M) (h' : Nat) (H1 : Heap) (locs1 : List Loc), rw_v D a0 w' h' H0 H1 locs1 → post ((w', h'), ra) → W p l e R s m args below meth c H1 locs1 (cells + mc) (slots + ms) Q (F0 m (pc + 3) ls (.ref ra :: rest))) : W p l e R s m args below meth c H locs cells slots Q (F0 m pc ls st0) := by
  refine va_callr (va_runS (rest := rest) X.1.1 hM ⟨rw_cb X.1 hs hR, X.1.1.2.2.2.2 _ hi⟩ (rw_pre X V) rfl hn hl hstk (lv_room hroom) hdg hf) V.2.2 (fun q _ h => h) (fun q h => h) (fun u ra t H1 locs1 ht hvm hp hB hz hk hS => ?_)
  obtain ⟨⟨hB1, hB2, -⟩, rfl⟩ := hB
  rw [ht] at hB1 hB2
  exact kk u.2 u.1.1 u.1.2 H1 locs1 ⟨hB1, hB2, hS⟩ hp
/-- what a call of an object's method must show, apart from the room -/
theorem rw_cv {Cn : String} (X : rw_x p c s m args cc nL own D C) (hs : hw_s own index Cn y cy maxL ret n) (hR : k + 1 ≤ R.frames ∧ 8 + (maxL + 11) + 40 * k ≤ R.locals) : CallW R s args own Cn index y cy maxL ret (hw_c y cy maxL ret) (rw_r k mc ms) mc ms n :=
  ⟨callB_of n X.1.1.2.2.2.2 (hw_goodc hs.2.2.2.2.1) rfl rfl rfl (X.1.1.2.2.2.2 _ hs.2.2.2.1) (X.1.1.2.2.2.2 _ hs.1) hs.2.2.2.2.2 hR, X.1.1.2.2.2.2 _ hs.2.1, X.1.1.2.2.2.2 _ hs.2.2.1⟩
theorem rw_callVi {post : Int32 → rw_M × Nat → Prop} {Cn : String} {Tb : u_T} {Nf ci b : Nat} {fs : List Value} (X : rw_x p c s m args cc nL own D C) (V : rw_v D a0 w h H0 H locs) (he : w b = some (.inr (ci, fs))) (hc : CLS[ci]? = some (Cn, Tb, Nf))
    (hM : Met l y (hw_c y cy maxL ret) (rw_r k mc ms) (va_Pc (.ref b :: As) (rw_b D C a0 (w, h))) (va_Qi post (rw_b D C a0) (rw_A a0)) mc ms (rw_A a0)) (hs : hw_s own index Cn y cy maxL ret n) (hR : k + 1 ≤ R.frames ∧ 8 + (maxL + 11) + 40 * k ≤ R.locals)
    (hn : As.length = n) (hl : ls.size = nL) (hstk : st0 = As.reverse ++ .ref b :: rest) (hroom : (rest.map fun v => v.category).sum ≤ 8) (hf : cells + mc ≤ R.cells ∧ slots + ms ≤ R.slots) (hdg : decode cc pc = .ok (.invokevirtual index, 3))
    (kk : ∀ (r : Int32) (w' : rw_M) (h' : Nat) (H1 : Heap) (locs1 : List Loc), rw_v D a0 w' h' H0 H1 locs1 → post r (w', h') → W p l e R s m args below meth c H1 locs1 (cells + mc) (slots + ms) Q (F0 m (pc + 3) ls (.int r :: rest))) : W p l e R s m args below meth c H locs cells slots Q (F0 m pc ls st0) := by
  refine va_calli (va_runV (rest := rest) X.1.1 hM (rw_cv X hs hR) ⟨rw_blind, va_recv (q0 := 0) X.1.2 (rw_P V he) hc rfl, (rw_pre X V).2⟩ rfl hn hl hstk (lv_room hroom) hdg hf) V.2.2 (fun q _ h => h) (fun q h => h) (fun r u t H1 locs1 ht hvm hp hB hz hk hS => ?_)
  obtain ⟨hB1, hB2, -⟩ := hB
  rw [ht] at hB1 hB2
  exact kk r u.1 u.2 H1 locs1 ⟨hB1, hB2, hS⟩ hp
theorem rw_callVv {post : rw_M × Nat → Prop} {Cn : String} {Tb : u_T} {Nf ci b : Nat} {fs : List Value} (X : rw_x p c s m args cc nL own D C) (V : rw_v D a0 w h H0 H locs) (he : w b = some (.inr (ci, fs))) (hc : CLS[ci]? = some (Cn, Tb, Nf))
    (hM : Met l y (hw_c y cy maxL ret) (rw_r k mc ms) (va_Pc (.ref b :: As) (rw_b D C a0 (w, h))) (va_Qv post (rw_b D C a0) (rw_A a0)) mc ms (rw_A a0)) (hs : hw_s own index Cn y cy maxL ret n) (hR : k + 1 ≤ R.frames ∧ 8 + (maxL + 11) + 40 * k ≤ R.locals)
    (hn : As.length = n) (hl : ls.size = nL) (hstk : st0 = As.reverse ++ .ref b :: rest) (hroom : (rest.map fun v => v.category).sum ≤ 8) (hf : cells + mc ≤ R.cells ∧ slots + ms ≤ R.slots) (hdg : decode cc pc = .ok (.invokevirtual index, 3))
    (kk : ∀ (w' : rw_M) (h' : Nat) (H1 : Heap) (locs1 : List Loc), rw_v D a0 w' h' H0 H1 locs1 → post (w', h') → W p l e R s m args below meth c H1 locs1 (cells + mc) (slots + ms) Q (F0 m (pc + 3) ls rest)) : W p l e R s m args below meth c H locs cells slots Q (F0 m pc ls st0) := by
  refine va_callv (va_runV (rest := rest) X.1.1 hM (rw_cv X hs hR) ⟨rw_blind, va_recv (q0 := 0) X.1.2 (rw_P V he) hc rfl, (rw_pre X V).2⟩ rfl hn hl hstk (lv_room hroom) hdg hf) V.2.2 (fun q _ h => h) (fun q h => h) (fun u t H1 locs1 ht hvm hp hB hz hk hS => ?_)
  obtain ⟨hB1, hB2, -⟩ := hB
  rw [ht] at hB1 hB2
  exact kk u.1 u.2 H1 locs1 ⟨hB1, hB2, hS⟩ hp
/-- Object's constructor -/
theorem rw_obj (X : rw_x p c s m args cc nL own D C) {b : Nat} (hlink : Cond.methodLink own index ⟨"java/lang/Object", "<init>", "()V"⟩ ∈ WALL) (hl : ls.size = nL) (hfr : 1 ≤ R.frames) (hlo : (rest.map fun v => v.category).sum + 12 ≤ R.locals) (hdg : decode cc pc = .ok (.invokespecial index, 3))
    (kk : W p l e R s m args below meth c H locs cells slots Q (F0 m (pc + 3) ls rest)) : W p l e R s m args below meth c H locs cells slots Q (F0 m pc ls (.ref b :: rest)) := by
  refine W.objInit (g := F0 m pc ls (.ref b :: rest)) X.1.1.1 X.1.1.2.1 X.1.1.2.2.2.1 (X.1.1.2.2.2.2 _ hlink) (X.1.1.2.2.2.2 _ wi_46) (X.1.1.2.2.2.2 _ wi_47) rfl (by rw [X.1.1.2.2.1]; exact hl) rfl hdg hfr (by show 2 * 0 + _ + 12 ≤ _; omega) kk
/-- an array of ints is cloned -/
theorem rw_clone (X : rw_x p c s m args cc nL own D C) (V : rw_v D a0 w h H0 H locs) {q n9 : Nat} {f : Nat → Nat} (he : w q = some (zz_i (C 0) n9 f)) (hlink : Cond.methodLink own index ⟨"[I", "clone", "()Ljava/lang/Object;"⟩ ∈ WALL) (hl : ls.size = nL)
    (hframes : 1 ≤ R.frames) (hlocals : (rest.map fun v => v.category).sum + 14 ≤ R.locals) (hcells : cells + 1 ≤ R.cells) (hslots : slots + n9 ≤ R.slots) (hdg : decode cc pc = .ok (.invokevirtual index, 3))
    (kk : ∀ (H1 : Heap), rw_v D a0 (rw_up w h (zz_i (C 0) n9 f)) (h + 1) H0 H1 locs → W p l e R s m args below meth c H1 locs (cells + 1) (slots + n9) Q (F0 m (pc + 3) ls (.ref h :: rest))) : W p l e R s m args below meth c H locs cells slots Q (F0 m pc ls (.ref q :: rest)) := by
  have hts := X.1.1.2.2.2.2
  have hsz : (vp_cell (C 0) (n9, .inl (fun i => nI (f i)))).slots.size = n9 := arrV_size _ _ _
  have hnm : s.vm.findClass "[I" = some (C 0) := va_nm_int (X.1.2.2 0 _ rfl).2
  obtain ⟨c0, t0', f1, f2, f3⟩ := Cond.castable_spec (va_Nw.use (A := args) rfl X.2.2.2)
  cases hnm.symm.trans f1
  intro T hT Xs
  have hcellT : T.heap[q]? = some (vp_cell (C 0) (n9, .inl (fun i => nI (f i)))) := by rw [hT]; exact rw_P V he 0 _ rfl
  obtain ⟨-, kA, hkA, comp, hkind⟩ := State.isArrayOf_alike Xs.warmed.alike ((X.1.2.2 0 _ rfl).1 0 (fun _ => .null))
  obtain ⟨-, kS, hkS, compS, hkindS⟩ := (X.1.2.2 0 _ rfl).1 0 (fun _ => .null)
  obtain ⟨vm', X', st⟩ := Xs.cloneArray X.1.1.1 X.1.1.2.2.2.1 (hts _ hlink) (hts _ wi_60) (hts _ wi_61) (hts _ wi_62) (hts _ wi_63) (a := q) (cell := vp_cell (C 0) (n9, .inl (fun i => nI (f i)))) hcellT (fun k h => by cases h) (fun h => by cases h) hnm f2 f3
    (fun i v hv => by
      have hk' : T.vm.classes[C 0]? = some kA := hkA
      have h9 : fits .int v = true := va_fit (cA := C 0) (n := n9) (F := fun j => .int (nI (f j))) (fun _ _ => rfl) i v hv
      show T.fitsSlot (C 0) .none i v = true
      simpa [State.fitsSlot, State.slotType?, hk', hkind] using h9)
    (g := F0 m pc ls (.ref q :: rest)) rfl (by rw [X.1.1.2.2.1]; exact hl) rfl (by rw [X.1.1.2.1]; exact hdg) hframes (by show 2 * 0 + _ + 14 ≤ _; omega) hcells (by rw [hsz]; exact hslots) (hloader := Vm.clonesLoader_of_array hkS hkindS)
  rw [hsz] at X'
  have hcellE : ({ cls := (vp_cell (C 0) (n9, .inl (fun i => nI (f i)))).cls, slots := (vp_cell (C 0) (n9, .inl (fun i => nI (f i)))).slots } : Cell) = vp_cell (C 0) (n9, .inl (fun i => nI (f i))) := rfl
  rw [hcellE] at X' st
  obtain ⟨t, b1, b2⟩ := kk (H.push (vp_cell (C 0) (n9, .inl (fun i => nI (f i))))) (rw_push V (by rw [Array.size_push, V.1]) (fun q hq => by rw [Array.getElem?_push, if_neg (by rw [V.1]; omega)]) (by
    show (H.push _)[h]? = some (vp_cell _ _)
    rw [← V.1, Array.getElem?_push_size]))
    ((T.setVm vm').pushCell (vp_cell (C 0) (n9, .inl (fun i => nI (f i))))) (by rw [← hT]; rfl) X'
  refine ⟨t, st t ?_, b2⟩
  rw [hT, V.1]
  exact b1
theorem rw_cast (X : rw_x p c s m args cc nL own D C) (V : rw_v D a0 w h H0 H locs) {q n9 : Nat} {f : Nat → Nat} (he : w q = some (zz_i (C 0) n9 f)) (hlink : Cond.classLink own index "[I" ∈ WALL) (hdg : decode cc pc = .ok (.checkcast index, 3))
    (kk : W p l e R s m args below meth c H locs cells slots Q (F0 m (pc + 3) ls (.ref q :: rest))) : W p l e R s m args below meth c H locs cells slots Q (F0 m pc ls (.ref q :: rest)) :=
  va_castA X.1.1.1 X.1.1.2.1 X.1.1.2.2.2.1 (X.1.1.2.2.2.2 _ hlink) (rw_P V he) 0 rfl (va_nm_int (X.1.2.2 0 _ rfl).2) hdg kk
/-- System.arraycopy, from the first on -/
theorem rw_copy (X : rw_x p c s m args cc nL own D C) (V : rw_v D a0 w h H0 H locs) {q0 q1 n0 n1 k9 : Nat} {f0 f1 : Nat → Nat} (he0 : w q0 = some (zz_i (C 0) n0 f0)) (he1 : w q1 = some (zz_i (C 0) n1 f1)) 
    (hlink : Cond.methodLink own index arraycopyName ∈ WALL) (hnat : Cond.native arraycopyName ∈ WALL) (hstat : Cond.static arraycopyName ∈ WALL) (hini : Cond.initialized "java/lang/System" ∈ WALL) (h4 : k9 ≤ n0) (h5 : k9 ≤ n1) (hn : k9 < 2147483648) (hsz : ls.size = nL)
    (hframes : 1 ≤ R.frames) (hlocals : (rest.map fun v => v.category).sum + 18 ≤ R.locals) (hdg : decode cc pc = .ok (.invokestatic index, 3))
    (kk : ∀ (H1 : Heap) (locs1 : List Loc), rw_v D a0 (rw_up w q1 (zz_i (C 0) n1 (fun j => if j < k9 then f0 j else f1 j))) h H0 H1 locs1 → W p l e R s m args below meth c H1 locs1 cells slots Q (F0 m (pc + 3) ls rest)) :
    W p l e R s m args below meth c H locs cells slots Q (F0 m pc ls (.int (nI k9) :: .int (nI 0) :: .ref q1 :: .int (nI 0) :: .ref q0 :: rest)) := by
  have hts := X.1.1.2.2.2.2
  have hc0 : H[q0]? = some (vp_cell (C 0) (n0, .inl (fun j => nI (f0 j)))) := rw_P V he0 0 _ rfl
  have hc1 : H[q1]? = some (vp_cell (C 0) (n1, .inl (fun j => nI (f1 j)))) := rw_P V he1 0 _ rfl
  have hcl : (nI k9).toNatClampNeg = k9 := nI_clamp hn
  have hz0 : (nI 0).toNatClampNeg = 0 := nI_clamp (by decide)
  have hti : (nI k9).toInt = (k9 : Int) := nI_toInt hn
  have ht0 : (nI 0).toInt = ((0 : Nat) : Int) := nI_toInt (by decide)
  intro T9 hT X9
  obtain ⟨-, b0, hb0, cm0, hkk0⟩ := (X.1.2.2 0 _ rfl).1 n0 (fun j => .int (nI (f0 j)))
  obtain ⟨-, b1, hb1, cm1, hkk1⟩ := (X.1.2.2 0 _ rfl).1 n1 (fun j => .int (nI (f1 j)))
  obtain ⟨vm', X', step⟩ := X9.arraycopy X.1.1.1 X.1.1.2.2.2.1 (hts _ hlink) (hts _ hnat) (hts _ hstat) (hts _ hini) (src := q0) (dst := q1) (cs := vp_cell (C 0) (n0, .inl (fun j => nI (f0 j)))) (cd := vp_cell (C 0) (n1, .inl (fun j => nI (f1 j)))) (srcPos := nI 0) (destPos := nI 0) (n := nI k9) (by rw [hT]; exact hc0) (by rw [hT]; exact hc1)
    (fun _ h => by cases h) (fun _ h => by cases h) (fun h => by cases h) (fun h => by cases h) hb0 hb1 hkk0 hkk1 (by simp [refKind]) (nI_pos (by decide)) (nI_pos (by decide)) (nI_pos hn)
    (by rw [hti, ht0]; show ¬ _ > ((arrV (C 0) n0 (fun j => .int (nI (f0 j)))).slots.size : Int); rw [arrV_size]; omega)
    (by rw [hti, ht0]; show ¬ _ > ((arrV (C 0) n1 (fun j => .int (nI (f1 j)))).slots.size : Int); rw [arrV_size]; omega)
    (fun vm₁ _ i hi => by
      rw [hcl] at hi
      have e9 : (vp_cell (C 0) (n0, .inl (fun j => nI (f0 j)))).slots.getD ((nI 0).toNatClampNeg + i) .null = .int (nI (f0 ((nI 0).toNatClampNeg + i))) := by
        show (arrV (C 0) n0 (fun j => .int (nI (f0 j)))).slots.getD _ _ = _
        rw [Array.getD_eq_getD_getElem?, arrV_read _ _ (by rw [hz0]; omega)]
        rfl
      refine ⟨?_, ?_⟩
      · rw [e9]; rfl
      · rw [e9]; exact trivial)
    (g := F0 m pc ls (.int (nI k9) :: .int (nI 0) :: .ref q1 :: .int (nI 0) :: .ref q0 :: rest)) rfl (by rw [X.1.1.2.2.1]; exact hsz) (rest := rest) rfl (by rw [X.1.1.2.1]; exact hdg) hframes (by show 2 * 0 + _ + 18 ≤ _; omega)
  have e1 : copied (vp_cell (C 0) (n0, .inl (fun j => nI (f0 j)))) (vp_cell (C 0) (n1, .inl (fun j => nI (f1 j)))) (nI 0) (nI 0) (nI k9) = vp_cell (C 0) (n1, .inl (fun j => nI (if j < k9 then f0 j else f1 j))) := by
    refine (va_copied (fun z => .int z) (C 0) (C 0) (fun j => nI (f0 j)) (fun j => nI (f1 j)) (sp := (nI 0).toNatClampNeg) (dp := (nI 0).toNatClampNeg) (n := (nI k9).toNatClampNeg) (by rw [hcl, hz0]; omega)).trans ?_
    rw [vp_cell_i]
    refine congrArg (arrV (C 0) n1) (funext fun j => congrArg Value.int ?_)
    rw [hcl, hz0]
    unfold va_cpy
    by_cases h : j < k9
    · rw [if_pos ⟨Nat.zero_le _, by omega⟩, if_pos h, Nat.sub_zero, Nat.zero_add]
    · rw [if_neg (fun q => h (by omega)), if_neg h]
  rw [e1] at X' step
  have hl : q1 < H.size := (Array.getElem?_eq_some_iff.mp hc1).1
  generalize hH1 : H.setIfInBounds q1 (vp_cell (C 0) (n1, .inl (fun j => nI (if j < k9 then f0 j else f1 j)))) = H1 at *
  have hheap : ((T9.setVm vm').setCell q1 (vp_cell (C 0) (n1, .inl (fun j => nI (if j < k9 then f0 j else f1 j))))).heap = H1 := by rw [← hH1, ← hT]; rfl
  have oq : ∀ q : Nat, q ≠ q1 → H1[q]? = H[q]? := fun q hq => by rw [← hH1]; simp [Array.getElem?_setIfInBounds, Ne.symm hq]
  have hq1 : H1[q1]? = some (vp_cell (C 0) (n1, .inl (fun j => nI (if j < k9 then f0 j else f1 j)))) := by rw [← hH1]; simp [Array.getElem?_setIfInBounds, hl]
  have hsize : H1.size = H.size := by rw [← hH1]; simp
  have hV := rw_set (k := 0) V he1 hsize oq (e := zz_i (C 0) n1 (fun j => if j < k9 then f0 j else f1 j)) hq1
  obtain ⟨t, c1, c2⟩ := kk H1 _ ⟨hV.1, hV.2.1, hV.2.2.1, hV.2.2.2.1, fun q hq => by
      rcases List.mem_append.mp hq with h | h
      · exact V.2.2.2.2 q h
      · obtain ⟨z9, -, hz⟩ := List.mem_map.mp h
        rw [← hz]
        exact (V.2.1.2 q1 _ he1).1⟩ _ hheap X'
  exact ⟨t, step t c1, c2⟩
end
section
variable {l : Launch} {D : va_G} {C : Nat → ClassId} {a0 : Nat} {u : rw_M × Nat} {y : MethodName} {cy : ByteArray} {maxL k mc ms : Nat} {av : List Value}
theorem rw_metr {post : (rw_M × Nat) × Nat → Prop} (hy : plainName y.cls = true) (hlen : (lg_sl av).length ≤ maxL)
    (body : ∀ (p : Program) (e : Env) (s : State) (m : MethodId) (args : Array Value) (below : List Frame) (meth : Method) (c : Code) (ls : Array Slot) (Q : State → Prop), rw_x p c s m args cy maxL y.cls D C → meth.name = y.name →
      (∀ (r : Nat) (w' : rw_M) (h' : Nat) (H' : Heap) (locs' : List Loc) (ls' : Array Slot) (pc : Nat), decode cy pc = .ok (.areturn, 1) → rw_v D a0 w' h' s.heap H' locs' → post ((w', h'), r) → W p l e (rw_r k mc ms) s m args below meth c H' locs' mc ms Q (F0 m pc ls' [.ref r])) →
      rw_v D a0 u.1 u.2 s.heap s.heap [] → lv_has ls maxL (lv_args 0 av) → W p l e (rw_r k mc ms) s m args below meth c s.heap [] 0 0 Q (F0 m 0 ls [])) :
    Met l y (hw_c y cy maxL (some (.array .int))) (rw_r k mc ms) (va_Pc av (rw_b D C a0 u)) (va_Qr post (rw_B D C a0) (rw_A a0)) mc ms (rw_A a0) := by
  refine Met.ofW (cc := cy) (maxL := maxL) (ret := some (.array .int)) hy rfl ?_
  intro p e s m args below meth c s₁ B hml hv
  obtain ⟨rfl, hsz, hW, hK⟩ := hv
  have hts := atoms_spec (ws := hw_c y cy maxL (some (.array .int))) B.pre
  have hown : s.vm.findClass y.cls = some m.cls := findClass_of_methodNamed B.named
  have hnm : meth.name = y.name := (name_of_methodNamed B.named B.method).1
  have hlocks := B.notSynchronized
  have hl := lv_entry av (n := maxL) hlen
  rw [lg_entry_eq]
  generalize (lg_sl av ++ List.replicate (maxL - (lg_sl av).length) Slot.unset).toArray = ls at hl ⊢
  refine body p e s m _ below meth c ls _ ⟨⟨⟨B.exec, B.bytes, hml, hown, fun w h => hts w (List.mem_cons_of_mem _ h)⟩, hK.1⟩, hK.2⟩ hnm ?_ ⟨hsz, hW, va_S.rf⟩ hl
  intro r w' h' H' locs' ls' pc hd V hp
  exact W.aret (v := .ref r) B.exec B.bytes B.returns (Or.inr ⟨_, rfl⟩) (Or.inr ⟨r, rfl⟩) (fun t ht hWm => ⟨⟨((w', h'), r), r, rfl, hp, ⟨by rw [ht]; exact V.1, by rw [ht]; exact V.2.1, rw_K.moved hWm.alike hK⟩, rfl⟩, V.2.2.F ht⟩) V.2.2.2.2 hd
end
