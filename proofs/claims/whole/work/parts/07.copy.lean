/-! System.arraycopy of the first n ints of one place into another. -/
def hw_cp (σ : hw_M) (k0 k1 : hw_P) (n : Nat) : hw_M := fun q => if q = k1 then (fun j => if j < n then σ k0 j else σ k1 j) else σ q
section
variable {p : Program} {l : Launch} {e : Env} {R : Room} {s : State} {m : MethodId} {args : Array Value} {below : List Frame} {meth : Method} {c : Code} {H : Heap} {locs : List Loc} {cells slots : Nat} {Q : State → Prop}
variable {cc : ByteArray} {nL pc : Nat} {own : String} {ls : Array Slot} {rest : List Value} {D : va_G} {T : List (ClassId × FieldType)} {E : hw_E} {ad : hw_P → Nat} {ok : hw_P → Prop} {A : Nat → Prop} {σ : hw_M} {H0 : Heap}
theorem hw_copy (X : hw_x p c s m args cc nL own D T) (V : hw_v D E ad ok A σ H0 H locs) {k0 k1 : hw_P} (ho0 : ok k0) (ho1 : ok k1) {cA : ClassId} {n0 n1 n index : Nat} (t0 : Nat) (he0 : E k0 (σ k0) = .inl (cA, n0, .inl (fun j => nI (σ k0 j)))) (he1 : ∀ f, E k1 f = .inl (cA, n1, .inl (fun j => nI (f j)))) (ht : T[t0]? = some (cA, .int))
    (hlink : Cond.methodLink own index arraycopyName ∈ WALL) (hnat : Cond.native arraycopyName ∈ WALL) (hstat : Cond.static arraycopyName ∈ WALL) (hini : Cond.initialized "java/lang/System" ∈ WALL) (h4 : n ≤ n0) (h5 : n ≤ n1) (hn : n < 2147483648) (hsz : ls.size = nL)
    (hframes : 1 ≤ R.frames) (hlocals : (rest.map fun v => v.category).sum + 18 ≤ R.locals) (hdg : decode cc pc = .ok (.invokestatic index, 3))
    (kk : ∀ (H1 : Heap) (locs1 : List Loc), hw_v D E ad ok A (hw_cp σ k0 k1 n) H0 H1 locs1 → W p l e R s m args below meth c H1 locs1 cells slots Q (F0 m (pc + 3) ls rest)) :
    W p l e R s m args below meth c H locs cells slots Q (F0 m pc ls (.int (nI n) :: .int (nI 0) :: .ref (ad k1) :: .int (nI 0) :: .ref (ad k0) :: rest)) := by
  have hts := X.1.2.2.2.2
  have hc0 : H[ad k0]? = some (vp_cell cA (n0, .inl (fun j => nI (σ k0 j)))) := hw_cell V ho0 he0 0 _ rfl
  have hc1 : H[ad k1]? = some (vp_cell cA (n1, .inl (fun j => nI (σ k1 j)))) := hw_cell V ho1 (he1 (σ k1)) 0 _ rfl
  have hcl : (nI n).toNatClampNeg = n := nI_clamp hn
  have hz0 : (nI 0).toNatClampNeg = 0 := nI_clamp (by decide)
  have hti : (nI n).toInt = (n : Int) := nI_toInt hn
  have ht0 : (nI 0).toInt = ((0 : Nat) : Int) := nI_toInt (by decide)
  intro T9 hT X9
  obtain ⟨-, a0, ha0, cm0, hkk0⟩ := (X.2.2 t0 _ ht).1 n0 (fun j => .int (nI (σ k0 j)))
  obtain ⟨-, a1, ha1, cm1, hkk1⟩ := (X.2.2 t0 _ ht).1 n1 (fun j => .int (nI (σ k1 j)))
  obtain ⟨vm', X', step⟩ := X9.arraycopy X.1.1 X.1.2.2.2.1 (hts _ hlink) (hts _ hnat) (hts _ hstat) (hts _ hini) (src := ad k0) (dst := ad k1) (cs := vp_cell cA (n0, .inl (fun j => nI (σ k0 j)))) (cd := vp_cell cA (n1, .inl (fun j => nI (σ k1 j)))) (srcPos := nI 0) (destPos := nI 0) (n := nI n) (by rw [hT]; exact hc0) (by rw [hT]; exact hc1)
    (fun _ h => by cases h) (fun _ h => by cases h) (fun h => by cases h) (fun h => by cases h) ha0 ha1 hkk0 hkk1 (by simp [refKind]) (nI_pos (by decide)) (nI_pos (by decide)) (nI_pos hn)
    (by rw [hti, ht0]; show ¬ _ > ((arrV cA n0 (fun j => .int (nI (σ k0 j)))).slots.size : Int); rw [arrV_size]; omega)
    (by rw [hti, ht0]; show ¬ _ > ((arrV cA n1 (fun j => .int (nI (σ k1 j)))).slots.size : Int); rw [arrV_size]; omega)
    (fun vm₁ _ i hi => by
      rw [hcl] at hi
      have e9 : (vp_cell cA (n0, .inl (fun j => nI (σ k0 j)))).slots.getD ((nI 0).toNatClampNeg + i) .null = .int (nI (σ k0 ((nI 0).toNatClampNeg + i))) := by
        show (arrV cA n0 (fun j => .int (nI (σ k0 j)))).slots.getD _ _ = _
        rw [Array.getD_eq_getD_getElem?, arrV_read _ _ (by rw [hz0]; omega)]
        rfl
      refine ⟨?_, ?_⟩
      · rw [e9]; rfl
      · rw [e9]; exact trivial)
    (g := F0 m pc ls (.int (nI n) :: .int (nI 0) :: .ref (ad k1) :: .int (nI 0) :: .ref (ad k0) :: rest)) rfl (by rw [X.1.2.2.1]; exact hsz) (rest := rest) rfl (by rw [X.1.2.1]; exact hdg) hframes (by show 2 * 0 + _ + 18 ≤ _; omega)
  have e1 : copied (vp_cell cA (n0, .inl (fun j => nI (σ k0 j)))) (vp_cell cA (n1, .inl (fun j => nI (σ k1 j)))) (nI 0) (nI 0) (nI n) = vp_cell cA (n1, .inl (fun j => nI (if j < n then σ k0 j else σ k1 j))) := by
    refine (va_copied (fun z => .int z) cA cA (fun j => nI (σ k0 j)) (fun j => nI (σ k1 j)) (sp := (nI 0).toNatClampNeg) (dp := (nI 0).toNatClampNeg) (n := (nI n).toNatClampNeg) (by rw [hcl, hz0]; omega)).trans ?_
    rw [vp_cell_i]
    refine congrArg (arrV cA n1) (funext fun j => congrArg Value.int ?_)
    rw [hcl, hz0]
    unfold va_cpy
    by_cases h : j < n
    · rw [if_pos ⟨Nat.zero_le _, by omega⟩, if_pos h, Nat.sub_zero, Nat.zero_add]
    · rw [if_neg (fun q => h (by omega)), if_neg h]
  rw [e1] at X' step
  have hl : ad k1 < H.size := (Array.getElem?_eq_some_iff.mp hc1).1
  generalize hH1 : H.setIfInBounds (ad k1) (vp_cell cA (n1, .inl (fun j => nI (if j < n then σ k0 j else σ k1 j)))) = H1 at *
  have hheap : ((T9.setVm vm').setCell (ad k1) (vp_cell cA (n1, .inl (fun j => nI (if j < n then σ k0 j else σ k1 j))))).heap = H1 := by rw [← hH1, ← hT]; rfl
  have oq : ∀ q : Nat, q ≠ ad k1 → H1[q]? = H[q]? := fun q hq => by rw [← hH1]; simp [Array.getElem?_setIfInBounds, Ne.symm hq]
  have hq1 : H1[ad k1]? = some (vp_cell cA (n1, .inl (fun j => nI (if j < n then σ k0 j else σ k1 j)))) := by rw [← hH1]; simp [Array.getElem?_setIfInBounds, hl]
  have hV : hw_w D E ad ok (hw_cp σ k0 k1 n) H1 := by
    refine ⟨fun j hj => ?_, V.1.2.1, fun q i => ?_⟩
    · by_cases e9 : j = k1
      · subst e9
        have e2 : hw_cp σ k0 j n j = fun i => if i < n then σ k0 i else σ j i := by simp [hw_cp]
        rw [e2, he1]
        exact hq1
      · have e2 : hw_cp σ k0 k1 n j = σ j := by simp [hw_cp, e9]
        rw [e2]
        exact (V.1.1 j hj).kept (oq _ (fun z => e9 (V.1.2.1 j k1 hj ho1 z)))
    · unfold hw_cp
      split
      · show (if i < n then σ k0 i else σ k1 i) < _
        split
        · exact V.1.2.2 _ _
        · exact V.1.2.2 _ _
      · exact V.1.2.2 _ _
  have hsize : H1.size = H.size := by rw [← hH1]; simp
  obtain ⟨t, b1, b2⟩ := kk H1 _ ⟨hV, V.2.1, ⟨by rw [hsize]; exact V.2.2.1, fun q g1 g2 => by
      rw [oq q (fun e9 => g2 (by rw [e9]; exact V.2.1 k1 ho1))]
      exact V.2.2.2.1 q g1 g2, fun q hq => by
      rcases List.mem_append.mp hq with h | h
      · exact V.2.2.2.2 q h
      · obtain ⟨z9, -, hz⟩ := List.mem_map.mp h
        rw [← hz]
        exact V.2.1 k1 ho1⟩⟩ _ hheap X'
  exact ⟨t, step t b1, b2⟩
end
