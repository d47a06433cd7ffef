/-! Remainders of any int by a small number. -/
theorem fm_rng (x : Int32) : -2147483648 ≤ x.toInt ∧ x.toInt < 2147483648 := by
  have h1 : x.toInt = x.toBitVec.toInt := rfl
  have h2 := BitVec.toInt_eq_toNat_cond x.toBitVec
  have h3 := x.toBitVec.isLt
  rw [h1, h2]
  split <;> omega
theorem fm_lt (x : Int32) {n : Nat} (h1 : 1 ≤ n) : x.toInt.tmod (n : Int) < n ∧ -(n : Int) < x.toInt.tmod n := by
  by_cases h0 : 0 ≤ x.toInt
  · have a := Int.tmod_nonneg (n : Int) h0
    have b := Int.tmod_lt_of_pos x.toInt (show (0 : Int) < n by omega)
    omega
  · have a : (-x.toInt).tmod (n : Int) = -(x.toInt.tmod n) := Int.neg_tmod _ _
    have b := Int.tmod_nonneg (n : Int) (show 0 ≤ -x.toInt by omega)
    have c := Int.tmod_lt_of_pos (-x.toInt) (show (0 : Int) < n by omega)
    omega
theorem fm_rem (x : Int32) {n : Nat} (h1 : 1 ≤ n) (h2 : n ≤ 128) : (x - x / nI n * nI n).toInt = x.toInt.tmod (n : Int) := by
  have hn : (nI n).toInt = (n : Int) := nI_toInt (by omega)
  have hne : nI n ≠ -1 := fun e => by
    have h9 : (nI n).toInt = (-1 : Int32).toInt := by rw [e]
    rw [hn, show (-1 : Int32).toInt = -1 from by decide +kernel] at h9
    omega
  have hA := fm_rng x
  have hd := Int.tmod_add_mul_tdiv x.toInt (n : Int)
  have hm : x.toInt.tmod (n : Int) < n ∧ -(n : Int) < x.toInt.tmod n := by
    by_cases h0 : 0 ≤ x.toInt
    · have a := Int.tmod_nonneg (n : Int) h0
      have b := Int.tmod_lt_of_pos x.toInt (show (0 : Int) < n by omega)
      omega
    · have a : (-x.toInt).tmod (n : Int) = -(x.toInt.tmod n) := Int.neg_tmod _ _
      have b := Int.tmod_nonneg (n : Int) (show 0 ≤ -x.toInt by omega)
      have c := Int.tmod_lt_of_pos (-x.toInt) (show (0 : Int) < n by omega)
      omega
  have hsg : (0 ≤ x.toInt → 0 ≤ x.toInt.tmod (n : Int)) ∧ (x.toInt ≤ 0 → x.toInt.tmod (n : Int) ≤ 0) := by
    refine ⟨fun h0 => Int.tmod_nonneg _ h0, fun h0 => ?_⟩
    have a : (-x.toInt).tmod (n : Int) = -(x.toInt.tmod n) := Int.neg_tmod _ _
    have b := Int.tmod_nonneg (n : Int) (show 0 ≤ -x.toInt by omega)
    omega
  have hmul : (x / nI n * nI n).toInt = (n : Int) * x.toInt.tdiv n := by
    rw [Int32.toInt_mul, Int32.toInt_div_of_ne_right _ _ hne, hn, Int.mul_comm]
    exact Int.bmod_eq_of_le (by omega) (by omega)
  rw [Int32.toInt_sub, hmul]
  rw [show x.toInt - (n : Int) * x.toInt.tdiv n = x.toInt.tmod n by omega]
  exact Int.bmod_eq_of_le (by omega) (by omega)
theorem fm_md (x : Int32) {n : Nat} (h1 : 1 ≤ n) : (0 ≤ x.toInt.tmod (n : Int) → x.toInt % (n : Int) = x.toInt.tmod n) ∧ (x.toInt.tmod (n : Int) < 0 → x.toInt % (n : Int) = x.toInt.tmod n + n) := by
  have hd := Int.tmod_add_mul_tdiv x.toInt (n : Int)
  have hlt : x.toInt.tmod (n : Int) < n ∧ -(n : Int) < x.toInt.tmod n := by
    by_cases h0 : 0 ≤ x.toInt
    · have a := Int.tmod_nonneg (n : Int) h0
      have b := Int.tmod_lt_of_pos x.toInt (show (0 : Int) < n by omega)
      omega
    · have a : (-x.toInt).tmod (n : Int) = -(x.toInt.tmod n) := Int.neg_tmod _ _
      have b := Int.tmod_nonneg (n : Int) (show 0 ≤ -x.toInt by omega)
      have c := Int.tmod_lt_of_pos (-x.toInt) (show (0 : Int) < n by omega)
      omega
  refine ⟨fun h => ?_, fun h => ?_⟩
  · conv => lhs; rw [← hd]
    rw [Int.add_mul_emod_self_left]
    exact Int.emod_eq_of_lt h hlt.1
  · conv => lhs; rw [← hd]
    rw [Int.add_mul_emod_self_left, ← Int.add_emod_right]
    exact Int.emod_eq_of_lt (by omega) (by omega)
/-- the reference's way: the remainder, n more, the remainder -/
theorem fm_two (x : Int32) {n : Nat} (h1 : 1 ≤ n) (h2 : n ≤ 128) : ∃ u, u < 256 ∧ x - x / nI n * nI n + nI n = nI u ∧ sp_md x n (u % n) := by
  have hr := fm_rem x h1 h2
  have hl := fm_lt x h1
  have hm := fm_md x h1
  have hn : (nI n).toInt = (n : Int) := nI_toInt (by omega)
  refine ⟨(x.toInt.tmod n + n).toNat, by omega, ?_, ?_⟩
  · apply Int32.toInt_inj.mp
    rw [Int32.toInt_add, hr, hn, nI_toInt (by omega)]
    rw [Int.bmod_eq_of_le (by omega) (by omega)]
    omega
  · unfold sp_md
    rw [Int.natCast_emod, Int.toNat_of_nonneg (by omega), Int.add_emod_right]
    by_cases h0 : 0 ≤ x.toInt.tmod (n : Int)
    · rw [hm.1 h0]
      exact Int.emod_eq_of_lt h0 hl.1
    · rw [hm.2 (by omega), ← Int.add_emod_right]
      exact Int.emod_eq_of_lt (by omega) (by omega)
theorem fm_xor (x : Int32) {n : Nat} (hn : n < 2147483648) : 0 ≤ (x ^^^ nI n) ↔ 0 ≤ x.toInt := by
  have e : (x.toBitVec ^^^ (nI n).toBitVec).msb = x.toBitVec.msb := by
    have h0 : (nI n).toBitVec.msb = false := by
      rw [BitVec.msb_eq_toInt]
      have : (nI n).toBitVec.toInt = (n : Int) := nI_toInt hn
      rw [this]
      simp
    rw [BitVec.msb_xor, h0, Bool.xor_false]
  rw [BitVec.msb_eq_toInt, BitVec.msb_eq_toInt, decide_eq_decide] at e
  rw [Int32.le_iff_toInt_le, show (0 : Int32).toInt = 0 from by decide +kernel]
  have e2 : (x ^^^ nI n).toInt = (x.toBitVec ^^^ (nI n).toBitVec).toInt := rfl
  have e3 : x.toInt = x.toBitVec.toInt := rfl
  rw [e2, e3]
  omega
/-- the class's way -/
theorem fm_floor (x : Int32) {n : Nat} (h1 : 1 ≤ n) (h2 : n ≤ 128) : ∃ v, v < n ∧ Jvm.Free.MCB.fmod x (nI n) = nI v ∧ sp_md x n v := by
  have hr := fm_rem x h1 h2
  have hl := fm_lt x h1
  have hm := fm_md x h1
  have hn : (nI n).toInt = (n : Int) := nI_toInt (by omega)
  have ha := Int.emod_nonneg x.toInt (show (n : Int) ≠ 0 by omega)
  have hb := Int.emod_lt_of_pos x.toInt (show (0 : Int) < n by omega)
  have hsg : (0 ≤ x.toInt → 0 ≤ x.toInt.tmod (n : Int)) ∧ (x.toInt ≤ 0 → x.toInt.tmod (n : Int) ≤ 0) := by
    refine ⟨fun h0 => Int.tmod_nonneg _ h0, fun h0 => ?_⟩
    have a : (-x.toInt).tmod (n : Int) = -(x.toInt.tmod n) := Int.neg_tmod _ _
    have b := Int.tmod_nonneg (n : Int) (show 0 ≤ -x.toInt by omega)
    omega
  refine ⟨(x.toInt % n).toNat, by omega, ?_, by unfold sp_md; omega⟩
  have hz0 : (0 : Int32).toInt = 0 := by decide +kernel
  apply Int32.toInt_inj.mp
  rw [nI_toInt (by omega), Int.toNat_of_nonneg ha]
  unfold Jvm.Free.MCB.fmod Jvm.Free.MCB.remI
  by_cases h0 : 0 ≤ x.toInt
  · rw [if_pos ((fm_xor x (by omega)).mpr h0), hr, hm.1 (hsg.1 h0)]
  · rw [if_neg (fun q => h0 ((fm_xor x (by omega)).mp q))]
    by_cases h3 : x - x / nI n * nI n = 0
    · have h4 : x.toInt.tmod (n : Int) = 0 := by rw [← hr, h3, hz0]
      rw [if_pos h3, hr, hm.1 (by omega)]
    · have h4 : x.toInt.tmod (n : Int) ≠ 0 := fun q => h3 (Int32.toInt_inj.mp (by rw [hr, q, hz0]))
      have h5 := hsg.2 (by omega)
      rw [if_neg h3, Int32.toInt_add, hr, hn, hm.2 (by omega)]
      exact Int.bmod_eq_of_le (by omega) (by omega)
section
variable {p : Program} {l : Launch} {e : Env} {R : Room} {s : State} {m : MethodId} {args : Array Value} {below : List Frame} {meth : Method} {c : Code} {H : Heap} {locs : List Loc} {cells slots : Nat} {Q : State → Prop}
variable {cc : ByteArray} {nL pc : Nat} {own : String} {ls : Array Slot} {rest : List Value} {D : va_G} {T : List (ClassId × FieldType)} {index : Nat}
theorem hw_fm (X : hw_x p c s m args cc nL own D T) {x y : Int32} (hlink : Cond.methodLink own index ⟨"java/lang/Math", "floorMod", "(II)I"⟩ ∈ WALL) (hy : y ≠ 0) (hl : ls.size = nL) (hfr : 1 ≤ R.frames) (hlo : 22 ≤ R.locals) (hroom : (rest.map fun v => v.category).sum ≤ 8) (hf : cells ≤ R.cells ∧ slots ≤ R.slots) (hdg : decode cc pc = .ok (.invokestatic index, 3))
    (kk : W p l e R s m args below meth c H locs cells slots Q (F0 m (pc + 3) ls (.int (Jvm.Free.MCB.fmod x y) :: rest))) : W p l e R s m args below meth c H locs cells slots Q (F0 m pc ls (.int y :: .int x :: rest)) := by
  have hts := X.1.2.2.2.2
  have htab : Jvm.Free.MCB.FloorMod.tab.before args s = true := hts _ wi_316
  have hini : (Cond.initialized "java/lang/Math").before args s = true := hts _ wi_35
  intro T9 hT X9
  obtain ⟨v, vm₁, ⟨U', l2, c2, s2⟩, hW₁, X', ⟨⟨q1, q2, q3, q4⟩, q5⟩, st⟩ := callS X9 X.1.1 (y := Jvm.Free.MCB.FloorMod.yN) X.1.2.2.2.1 (hts _ hlink) (hts _ wi_315) hini htab (by decide)
    (Jvm.Free.MCB.FloorMod.pays (l := l) (R := R) (p := p) (e := e) (below := below) (s := s) (args := args) (W := 8) (len := 3) (by omega) (by omega) htab hini)
    (g := F0 m pc ls (.int y :: .int x :: rest)) rfl (by rw [X.1.2.2.1]; exact hl) (argsL := [.int x, .int y]) (rest := rest) (fun sig hs => by rw [show parseMethodDescriptor Jvm.Free.MCB.FloorMod.yN.desc = some ⟨[.int, .int], some .int⟩ from by decide +kernel] at hs; rw [← Option.some.inj hs]; rfl) rfl (by show 2 * 0 + _ ≤ 8; omega) (by rw [X.1.2.1]; exact hdg)
    (fun vmx hWx => ⟨hf.1, hf.2, (x, y), rfl, hy⟩)
  have hv := q5 (x, y) ⟨rfl, hy⟩
  dsimp only [Pt.U, Pt.locs, Pt.cells, Pt.slots] at X' q1 q2 q3 q4 hv st
  subst hv q2 q3 q4
  obtain ⟨t, b1, b2⟩ := kk U' (q1.trans hT) X'
  exact ⟨t, st t b1, b2⟩
end
