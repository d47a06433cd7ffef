/-! Remainders of any int by a small number. -/
theorem fm_rng (x : Int32) : -2147483648 ≤ x.toInt ∧ x.toInt < 2147483648 := by
  have h1 : x.toInt = x.toBitVec.toInt := rfl
  have h2 := BitVec.toInt_eq_toNat_cond x.toBitVec
  have h3 := x.toBitVec.isLt
  rw [h1, h2]
  split <;> omega
theorem fm_lt (x : Int32) {n : Nat} (h1 : 1 ≤ n) : x.toInt.tmod (n : Int) < n ∧ -(n : Int) < x.toInt.tmod n := by
  by_cases h0 : 0 ≤ x.toInt
  · have a := Int.tmod_nonneg (n : Int) h0
    have b := Int.tmod_lt_of_pos x.toInt (show (0 : Int) < n by omega)
    omega
  · have a : (-x.toInt).tmod (n : Int) = -(x.toInt.tmod n) := Int.neg_tmod _ _
    have b := Int.tmod_nonneg (n : Int) (show 0 ≤ -x.toInt by omega)
    have c := Int.tmod_lt_of_pos (-x.toInt) (show (0 : Int) < n by omega)
    omega
theorem fm_rem (x : Int32) {n : Nat} (h1 : 1 ≤ n) (h2 : n ≤ 128) : (x - x / nI n * nI n).toInt = x.toInt.tmod (n : Int) := by
  have hn : (nI n).toInt = (n : Int) := nI_toInt (by omega)
  have hne : nI n ≠ -1 := fun e => by
    have h9 : (nI n).toInt = (-1 : Int32).toInt := by rw [e]
    rw [hn, show (-1 : Int32).toInt = -1 from by decide +kernel] at h9
    omega
  have hA := fm_rng x
  have hd := Int.tmod_add_mul_tdiv x.toInt (n : Int)
  have hm : x.toInt.tmod (n : Int) < n ∧ -(n : Int) < x.toInt.tmod n := by
    by_cases h0 : 0 ≤ x.toInt
    · have a := Int.tmod_nonneg (n : Int) h0
      have b := Int.tmod_lt_of_pos x.toInt (show (0 : Int) < n by omega)
      omega
    · have a : (-x.toInt).tmod (n : Int) = -(x.toInt.tmod n) := Int.neg_tmod _ _
      have b := Int.tmod_nonneg (n : Int) (show 0 ≤ -x.toInt by omega)
      have c := Int.tmod_lt_of_pos (-x.toInt) (show (0 : Int) < n by omega)
      omega
  have hsg : (0 ≤ x.toInt → 0 ≤ x.toInt.tmod (n : Int)) ∧ (x.toInt ≤ 0 → x.toInt.tmod (n : Int) ≤ 0) := by
    refine ⟨fun h0 => Int.tmod_nonneg _ h0, fun h0 => ?_⟩
    have a : (-x.toInt).tmod (n : Int) = -(x.toInt.tmod n) := Int.neg_tmod _ _
    have b := Int.tmod_nonneg (n : Int) (show 0 ≤ -x.toInt by omega)
    omega
  have hmul : (x / nI n * nI n).toInt = (n : Int) * x.toInt.tdiv n := by
    rw [Int32.toInt_mul, Int32.toInt_div_of_ne_right _ _ hne, hn, Int.mul_comm]
    exact Int.bmod_eq_of_le (by omega) (by omega)
  rw [Int32.toInt_sub, hmul]
  rw [show x.toInt - (n : Int) * x.toInt.tdiv n = x.toInt.tmod n by omega]
  exact Int.bmod_eq_of_le (by omega) (by omega)
theorem fm_md (x : Int32) {n : Nat} (h1 : 1 ≤ n) : (0 ≤ x.toInt.tmod (n : Int) → x.toInt % (n : Int) = x.toInt.tmod n) ∧ (x.toInt.tmod (n : Int) < 0 → x.toInt % (n : Int) = x.toInt.tmod n + n) := by
  have hd := Int.tmod_add_mul_tdiv x.toInt (n : Int)
  have hlt : x.toInt.tmod (n : Int) < n ∧ -(n : Int) < x.toInt.tmod n := by
    by_cases h0 : 0 ≤ x.toInt
    · have a := Int.tmod_nonneg (n : Int) h0
      have b := Int.tmod_lt_of_pos x.toInt (show (0 : Int) < n by omega)
      omega
    · have a : (-x.toInt).tmod (n : Int) = -(x.toInt.tmod n) := Int.neg_tmod _ _
      have b := Int.tmod_nonneg (n : Int) (show 0 ≤ -x.toInt by omega)
      have c := Int.tmod_lt_of_pos (-x.toInt) (show (0 : Int) < n by omega)
      omega
  refine ⟨fun h => ?_, fun h => ?_⟩
  · conv => lhs; rw [← hd]
    rw [Int.add_mul_emod_self_left]
    exact Int.emod_eq_of_lt h hlt.1
  · conv => lhs; rw [← hd]
    rw [Int.add_mul_emod_self_left, ← Int.add_emod_right]
    exact Int.emod_eq_of_lt (by omega) (by omega)
/-- the reference's way: the remainder, n more, the remainder -/
theorem fm_two (x : Int32) {n : Nat} (h1 : 1 ≤ n) (h2 : n ≤ 128) : ∃ u, u < 256 ∧ x - x / nI n * nI n + nI n = nI u ∧ sp_md x n (u % n) := by
  have hr := fm_rem x h1 h2
  have hl := fm_lt x h1
  have hm := fm_md x h1
  have hn : (nI n).toInt = (n : Int) := nI_toInt (by omega)
  refine ⟨(x.toInt.tmod n + n).toNat, by omega, ?_, ?_⟩
  · apply Int32.toInt_inj.mp
    rw [Int32.toInt_add, hr, hn, nI_toInt (by omega)]
    rw [Int.bmod_eq_of_le (by omega) (by omega)]
    omega
  · unfold sp_md
    rw [Int.natCast_emod, Int.toNat_of_nonneg (by omega), Int.add_emod_right]
    by_cases h0 : 0 ≤ x.toInt.tmod (n : Int)
    · rw [hm.1 h0]
      exact Int.emod_eq_of_lt h0 hl.1
    · rw [hm.2 (by omega), ← Int.add_emod_right]
      exact Int.emod_eq_of_lt (by omega) (by omega)
theorem fm_xor (x : Int32) {n : Nat} (hn : n < 2147483648) : 0 ≤ (x ^^^ nI n) ↔ 0 ≤ x.toInt := by
  have e : (x.toBitVec ^^^ (nI n).toBitVec).msb = x.toBitVec.msb := by
    have h0 : (nI n).toBitVec.msb = false := by
      rw [BitVec.msb_eq_toInt]
      have : (nI n).toBitVec.toInt = (n : Int) := nI_toInt hn
      rw [this]
      simp
    rw [BitVec.msb_xor, h0, Bool.xor_false]
  rw [BitVec.msb_eq_toInt, BitVec.msb_eq_toInt, decide_eq_decide] at e
  rw [Int32.le_iff_toInt_le, show (0 : Int32).toInt = 0 from by decide +kernel]
  have e2 : (x ^^^ nI n).toInt = (x.toBitVec ^^^ (nI n).toBitVec).toInt := rfl
  have e3 : x.toInt = x.toBitVec.toInt := rfl
  rw [e2, e3]
  omega
/-- what floorMod answers, in the words of its bytes -/
def fx_v (x y : Int32) : Int32 := if 0 ≤ x ^^^ y then x - x / y * y else if x - x / y * y = 0 then x - x / y * y else x - x / y * y + y
abbrev fx_y : MethodName := ⟨"java/lang/Math", "floorMod", "(II)I"⟩
abbrev fx_w : Cond := .code fx_y prog_8_method_50_code 3 (some .int)
theorem fx_0 : decode prog_8_method_50_code 0 = .ok (.iload_n 0, 1) := by decide +kernel
theorem fx_1 : decode prog_8_method_50_code 1 = .ok (.iload_n 1, 1) := by decide +kernel
theorem fx_2 : decode prog_8_method_50_code 2 = .ok (.irem, 1) := by decide +kernel
theorem fx_3 : decode prog_8_method_50_code 3 = .ok (.istore_n 2, 1) := by decide +kernel
theorem fx_4 : decode prog_8_method_50_code 4 = .ok (.iload_n 0, 1) := by decide +kernel
theorem fx_5 : decode prog_8_method_50_code 5 = .ok (.iload_n 1, 1) := by decide +kernel
theorem fx_6 : decode prog_8_method_50_code 6 = .ok (.ixor, 1) := by decide +kernel
theorem fx_7 : decode prog_8_method_50_code 7 = .ok (.ifCond .ge 11, 3) := by decide +kernel
theorem fx_10 : decode prog_8_method_50_code 10 = .ok (.iload_n 2, 1) := by decide +kernel
theorem fx_11 : decode prog_8_method_50_code 11 = .ok (.ifCond .eq 7, 3) := by decide +kernel
theorem fx_14 : decode prog_8_method_50_code 14 = .ok (.iload_n 2, 1) := by decide +kernel
theorem fx_15 : decode prog_8_method_50_code 15 = .ok (.iload_n 1, 1) := by decide +kernel
theorem fx_16 : decode prog_8_method_50_code 16 = .ok (.iadd, 1) := by decide +kernel
theorem fx_17 : decode prog_8_method_50_code 17 = .ok (.ireturn, 1) := by decide +kernel
theorem fx_18 : decode prog_8_method_50_code 18 = .ok (.iload_n 2, 1) := by decide +kernel
theorem fx_19 : decode prog_8_method_50_code 19 = .ok (.ireturn, 1) := by decide +kernel
/-- floorMod's bytes, walked -/
theorem fx_met (l : Launch) (x y : Int32) (hy : y ≠ 0) : Met l fx_y [fx_w] rm0 (PcFm x y) (QcRead (fx_v x y)) 0 0 (fun _ => False) := by
  refine MetFree.of_bodySF (code := prog_8_method_50_code) (maxLocals := 3) (ret := some .int) (by decide +kernel) ?_ ?_
  · intro a U k h hn
    obtain ⟨meth, c, h1, h2, h3, h4, h5, h6, -, -⟩ := Cond.code_spec hn (atoms_spec (ws := [fx_w]) h _ List.mem_cons_self)
    exact ⟨meth, c, h1, h2, h3, h4, h5, h6⟩
  · intro p e s m args below meth c s₁ B _ hP _
    have hargs : args = #[.int x, .int y] := hP
    subst hargs
    have hx := B.exec
    have hb := B.bytes
    have hend : ∀ (ls : Array Slot) (pc : Nat) (v : Int32), decode prog_8_method_50_code pc = .ok (.ireturn, 1) → v = fx_v x y →
        W p l e (headSpec [fx_w] rm0).room s m #[.int x, .int y] below meth c s.heap [] 0 0 (MQ below (QcRead (fx_v x y)) #[.int x, .int y] s 0 0 (fun _ => False)) (F0 m pc ls [.int v]) := by
      intro ls pc v hd hv
      have hlocks := B.notSynchronized
      exact W.iret (v := v) hx hb B.returns (fun t ht _ => ⟨by rw [hv], ht⟩) (fun q hq => absurd hq (List.not_mem_nil)) hd
    have walk : ∀ ls : Array Slot, lv_has ls 3 [(0, .int x), (1, .int y)] →
        W p l e (headSpec [fx_w] rm0).room s m #[.int x, .int y] below meth c s.heap [] 0 0 (MQ below (QcRead (fx_v x y)) #[.int x, .int y] s 0 0 (fun _ => False)) (F0 m 0 ls []) := by
      intro ls hl
      refine lv_iload_n hx hb fx_0 rfl (lv_at hl 0 rfl) ?_
      refine lv_iload_n hx hb fx_1 rfl (lv_at hl 1 rfl) ?_
      refine lv_irem hx hb fx_2 hy ?_
      refine lv_istore_n hx hb (lv' := [(2, _), (0, _), (1, _)]) fx_3 rfl hl (by decide) rfl (fun ls hl => ?_)
      refine lv_iload_n hx hb fx_4 rfl (lv_at hl 1 rfl) ?_
      refine lv_iload_n hx hb fx_5 rfl (lv_at hl 2 rfl) ?_
      refine lv_ixor hx hb fx_6 ?_
      refine lv_if_ge hx hb (tgt := 18) fx_7 (by decide) (fun h0 => ?_) (fun h0 => ?_)
      · refine lv_iload_n hx hb fx_18 rfl (lv_at hl 0 rfl) ?_
        exact hend _ _ _ fx_19 (by unfold fx_v; rw [if_pos h0])
      · refine lv_iload_n hx hb fx_10 rfl (lv_at hl 0 rfl) ?_
        refine lv_if_eq hx hb (tgt := 18) fx_11 (by decide) (fun h1 => ?_) (fun h1 => ?_)
        · refine lv_iload_n hx hb fx_18 rfl (lv_at hl 0 rfl) ?_
          exact hend _ _ _ fx_19 (by unfold fx_v; rw [if_neg h0, if_pos h1])
        · refine lv_iload_n hx hb fx_14 rfl (lv_at hl 0 rfl) ?_
          refine lv_iload_n hx hb fx_15 rfl (lv_at hl 2 rfl) ?_
          refine lv_iadd hx hb fx_16 ?_
          exact hend _ _ _ fx_17 (by unfold fx_v; rw [if_neg h0, if_neg h1])
    obtain ⟨t, a1, o, b1, b2, b3⟩ := walk #[.val (.int x), .val (.int y), .unset] (lv_entry [.int x, .int y] (n := 3) (Nat.le_of_ble_eq_true rfl)) s₁ (by rw [B.state]; rfl) (Stand.of_body B)
    exact ⟨t, o, a1, b1, b2, b3⟩
/-- the class's way -/
theorem fm_floor (x : Int32) {n : Nat} (h1 : 1 ≤ n) (h2 : n ≤ 128) : ∃ v, v < n ∧ fx_v x (nI n) = nI v ∧ sp_md x n v := by
  have hr := fm_rem x h1 h2
  have hl := fm_lt x h1
  have hm := fm_md x h1
  have hn : (nI n).toInt = (n : Int) := nI_toInt (by omega)
  have ha := Int.emod_nonneg x.toInt (show (n : Int) ≠ 0 by omega)
  have hb := Int.emod_lt_of_pos x.toInt (show (0 : Int) < n by omega)
  have hsg : (0 ≤ x.toInt → 0 ≤ x.toInt.tmod (n : Int)) ∧ (x.toInt ≤ 0 → x.toInt.tmod (n : Int) ≤ 0) := by
    refine ⟨fun h0 => Int.tmod_nonneg _ h0, fun h0 => ?_⟩
    have a : (-x.toInt).tmod (n : Int) = -(x.toInt.tmod n) := Int.neg_tmod _ _
    have b := Int.tmod_nonneg (n : Int) (show 0 ≤ -x.toInt by omega)
    omega
  refine ⟨(x.toInt % n).toNat, by omega, ?_, by unfold sp_md; omega⟩
  have hz0 : (0 : Int32).toInt = 0 := by decide +kernel
  apply Int32.toInt_inj.mp
  rw [nI_toInt (by omega), Int.toNat_of_nonneg ha]
  unfold fx_v
  by_cases h0 : 0 ≤ x.toInt
  · rw [if_pos ((fm_xor x (by omega)).mpr h0), hr, hm.1 (hsg.1 h0)]
  · rw [if_neg (fun q => h0 ((fm_xor x (by omega)).mp q))]
    by_cases h3 : x - x / nI n * nI n = 0
    · have h4 : x.toInt.tmod (n : Int) = 0 := by rw [← hr, h3, hz0]
      rw [if_pos h3, hr, hm.1 (by omega)]
    · have h4 : x.toInt.tmod (n : Int) ≠ 0 := fun q => h3 (Int32.toInt_inj.mp (by rw [hr, q, hz0]))
      have h5 := hsg.2 (by omega)
      rw [if_neg h3, Int32.toInt_add, hr, hn, hm.2 (by omega)]
      exact Int.bmod_eq_of_le (by omega) (by omega)
section
variable {p : Program} {l : Launch} {e : Env} {R : Room} {s : State} {m : MethodId} {args : Array Value} {below : List Frame} {meth : Method} {c : Code} {H : Heap} {locs : List Loc} {cells slots : Nat} {Q : State → Prop}
variable {cc : ByteArray} {nL pc : Nat} {own : String} {ls : Array Slot} {rest : List Value} {D : va_G} {T : List (ClassId × FieldType)} {index : Nat}
theorem hw_fm (X : hw_x p c s m args cc nL own D T) {x y : Int32} (hlink : Cond.methodLink own index ⟨"java/lang/Math", "floorMod", "(II)I"⟩ ∈ WALL) (hy : y ≠ 0) (hl : ls.size = nL) (hfr : 1 ≤ R.frames) (hlo : 22 ≤ R.locals) (hroom : (rest.map fun v => v.category).sum ≤ 8) (hf : cells ≤ R.cells ∧ slots ≤ R.slots) (hdg : decode cc pc = .ok (.invokestatic index, 3))
    (kk : W p l e R s m args below meth c H locs cells slots Q (F0 m (pc + 3) ls (.int (fx_v x y) :: rest))) : W p l e R s m args below meth c H locs cells slots Q (F0 m pc ls (.int y :: .int x :: rest)) := by
  have hts := X.1.2.2.2.2
  have hini : (Cond.initialized "java/lang/Math").before args s = true := hts _ wi_35
  intro T9 hT X9
  obtain ⟨v, vm₁, g', mk, t, T', XF, e1, e2, ⟨hv, hh⟩, st⟩ := callSM X9 X.1.1 (own := own) (index := index) (y := fx_y) (bytes := prog_8_method_50_code) (maxL := 3) (ret := some .int) (W := 8) (mc := 0) (ms := 0)
    (ws := [fx_w]) (rm := rm0) (fx_met l x y hy) (blindFm x y) rfl rfl (by simpa [rm0] using hfr) (by simpa [rm0] using hlo)
    (fun w hw a' U hW' => by
      have hw' : w = fx_w := by simpa using hw
      subst hw'
      exact word_at hW' (hw_good _ wi_316).2 (hts _ wi_316))
    List.mem_cons_self X.1.2.2.2.1 (hts _ hlink) (hts _ wi_315) (hts _ wi_316) hini (by decide)
    (g := F0 m pc ls (.int y :: .int x :: rest)) rfl (by rw [X.1.2.2.1]; exact hl) (argsL := [.int x, .int y]) (rest := rest)
    (fun sig hs => by rw [show parseMethodDescriptor fx_y.desc = some ⟨[.int, .int], some .int⟩ from by decide +kernel] at hs; rw [← Option.some.inj hs]; rfl) rfl (by show 2 * 0 + _ ≤ 8; omega) (by rw [X.1.2.1]; exact hdg) hf.1 hf.2
    (fun vmx hWx => rfl) (fun a h => h.elim)
  cases hv
  obtain ⟨t9, b1, b2⟩ := kk T' ((e1.trans hh).trans hT) XF
  exact ⟨t9, st t9 b1, b2⟩
end
