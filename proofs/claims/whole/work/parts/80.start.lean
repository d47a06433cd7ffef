/-! The law's walk. -/
def lw_x (L : Nat) (xs : Nat → Int32) : Int32 := if 0 < L then xs 0 else 0
theorem lw_blind {D : va_G} {C : Nat → ClassId} {a0 b L : Nat} {xs : Nat → Int32} {u : rw_M × Nat} {av : List Value} : FrameBlind (va_Pc av (fun U => rw_b D C a0 u U ∧ va_X b L xs U U.heap)) := by
  intro a U g mk q
  obtain ⟨q0, ⟨qS, qW, qK⟩, qX⟩ := q
  exact ⟨q0, ⟨qS, qW, rw_K.moved (u := U) (U := U.calling g mk a) (Vm.Alike.refl U.vm) qK⟩, qX⟩
theorem lw_cell (l : Launch) (D : va_G) (C : Nat → ClassId) (a0 : Nat) (w : rw_M) (h b L : Nat) (xs : Nat → Int32) (hL : L ≤ 2049) : Met l y_Law_cell (hw_c y_Law_cell b_Law_cell 2 (some .int)) (rw_r 0 0 0) (va_Pc [.ref b, .int (nI 0)] (fun U => rw_b D C a0 (w, h) U ∧ va_X b L xs U U.heap)) (va_Qi (fun r u => u = (w, h) ∧ r = lw_x L xs) (rw_b D C a0) (rw_A a0)) 0 0 (rw_A a0) := by
  refine Met.ofW (cc := b_Law_cell) (maxL := 2) (ret := some .int) (by decide) rfl ?_
  intro p e s m args below meth c s₁ B hml hv
  obtain ⟨rfl, ⟨hsz, hW, hK⟩, hX⟩ := hv
  have hts := atoms_spec (ws := hw_c y_Law_cell b_Law_cell 2 (some .int)) B.pre
  have hown : s.vm.findClass y_Law_cell.cls = some m.cls := findClass_of_methodNamed B.named
  have hlocks := B.notSynchronized
  have hl := lv_entry [.ref b, .int (nI 0)] (n := 2) (Nat.le_of_ble_eq_true rfl)
  rw [lg_entry_eq]
  generalize (lg_sl [Value.ref b, .int (nI 0)] ++ List.replicate (2 - (lg_sl [Value.ref b, .int (nI 0)]).length) Slot.unset).toArray = ls at hl ⊢
  have hl : lv_has ls 2 [(0, .ref b), (1, .int (nI 0))] := hl
  have X : hw_x p c s m #[Value.ref b, .int (nI 0)] b_Law_cell 2 R_Law D (rw_T C) := ⟨⟨B.exec, B.bytes, hml, hown, fun w h => hts w (List.mem_cons_of_mem _ h)⟩, hK.1⟩
  have hbl : b < s.heap.size := by
    obtain ⟨scr, h1, -⟩ := hX
    exact (Array.getElem?_eq_some_iff.mp h1).1
  refine nw_iload_n X d_Law_cell_0 rfl (lv_at hl 1 rfl) ?_
  refine nw_aload_n X d_Law_cell_1 rfl (lv_at hl 0 rfl) ?_
  refine va_slen (A := fun _ => False) B.exec B.bytes hX hbl (fun h => h) va_S.rf d_Law_cell_2 ?_
  refine nw_icmp_ge X (b := L) (tgt := 12) d_Law_cell_3 (by decide) (by decide) (by omega) (fun hc => ?_) (fun hc => ?_)
  · refine nw_iconstv X 0 d_Law_cell_12 (by decide) ?_
    exact W.iret (v := 0) B.exec B.bytes B.returns (fun t ht hWm => ⟨⟨0, (w, h), rfl, ⟨rfl, (if_neg (by omega)).symm⟩, by rw [ht]; exact hsz, by rw [ht]; exact hW, rw_K.moved hWm.alike hK⟩, va_S.F va_S.rf ht⟩) (fun q hq => absurd hq List.not_mem_nil) d_Law_cell_13
  · refine nw_aload_n X d_Law_cell_6 rfl (lv_at hl 0 rfl) ?_
    refine nw_iload_n X d_Law_cell_7 rfl (lv_at hl 1 rfl) ?_
    refine va_sld (A := fun _ => False) B.exec B.bytes hX hbl (fun h => h) va_S.rf (vp_in_nI hc (by omega)) d_Law_cell_8 ?_
    rw [nI_clamp (show 0 < 2 ^ 31 by omega)]
    refine nw_goto X (tgt := 13) d_Law_cell_9 (by decide) ?_
    exact W.iret (v := xs 0) B.exec B.bytes B.returns (fun t ht hWm => ⟨⟨xs 0, (w, h), rfl, ⟨rfl, (if_pos hc).symm⟩, by rw [ht]; exact hsz, by rw [ht]; exact hW, rw_K.moved hWm.alike hK⟩, va_S.F va_S.rf ht⟩) (fun q hq => absurd hq List.not_mem_nil) d_Law_cell_13
section
variable {p : Program} {l : Launch} {e : Env} {R : Room} {s : State} {m : MethodId} {args : Array Value} {below : List Frame} {meth : Method} {c : Code} {H : Heap} {locs : List Loc} {cells slots : Nat} {Q : State → Prop}
variable {pc : Nat} {ls : Array Slot} {rest : List Value} {D : va_G} {C : Nat → ClassId} {a0 h : Nat} {w : rw_M} {b L : Nat} {xs : Nat → Int32}
theorem lw_cellc (X : rw_x p c s m args code 4 R_Law D C) (V : rw_v D a0 w h s.heap H locs) (hX : va_X b L xs s s.heap) (hbl : b < s.heap.size) (hba : b < a0) (hL : L ≤ 2049) (hl : ls.size = 4) (hroom : (rest.map fun v => v.category).sum ≤ 8) (hf : cells ≤ R.cells ∧ slots ≤ R.slots) (hR : 1 ≤ R.frames ∧ 21 ≤ R.locals) (hdg : decode code pc = .ok (.invokestatic 9, 3))
    (kk : ∀ (H1 : Heap) (locs1 : List Loc), rw_v D a0 w h s.heap H1 locs1 → W p l e R s m args below meth c H1 locs1 cells slots Q (F0 m (pc + 3) ls (.int (lw_x L xs) :: rest))) : W p l e R s m args below meth c H locs cells slots Q (F0 m pc ls (.int (nI 0) :: .ref b :: rest)) := by
  refine va_calli (va_runS (rest := rest) (As := [.ref b, .int (nI 0)]) (n := 2) X.1.1 (lw_cell l D C a0 w h b L xs hL) ⟨rw_cb X.1 ⟨wi_448, wi_31, wi_450, by decide +kernel⟩ ⟨by omega, by omega⟩, X.1.1.2.2.2.2 _ wi_449⟩ ⟨lw_blind, fun U hU hW => ⟨rfl, ⟨by rw [hU]; exact V.1, by rw [hU]; exact V.2.1, rw_K.moved hW.alike ⟨X.1.2, X.2⟩⟩, ?_⟩⟩ rfl rfl hl rfl (lv_room hroom) hdg hf) V.2.2 (fun q _ h => h) (fun q h => h) (fun r u t H1 locs1 ht hvm hp hB hz hk hS => ?_)
  · obtain ⟨scr, g1, g2, g3⟩ := hX
    exact ⟨scr, by rw [hU, V.2.2.2.1 b hbl (by show ¬ a0 ≤ b; omega)]; exact g1, State.isArrayOf_alike hW.alike g2, g3⟩
  · obtain ⟨rfl, rfl⟩ := hp
    obtain ⟨hB1, hB2, -⟩ := hB
    rw [ht] at hB1 hB2
    exact kk H1 locs1 ⟨hB1, hB2, hS⟩
end
/-- the classes as the tables have them -/
theorem lw_K {s : State} {args : Array Value} (hts : ∀ w ∈ lw_tbl, w.before args s = true) : ∃ (D : va_G) (C : Nat → ClassId), rw_K D C s := by
  have hW : ∀ w ∈ WALL, w.before args s = true := fun w hw => hts w (List.mem_filter.mp hw).1
  obtain ⟨k0, i0, h0⟩ := u_known (C := R_Col) (T := F_Col) (N := 8) hW in_Col (hW _ wi_49)
  obtain ⟨k1, i1, h1⟩ := u_known (C := R_Set) (T := F_Set) (N := 3) hW in_Set (hW _ wi_113)
  obtain ⟨k2, i2, h2⟩ := u_known (C := R_Sub) (T := F_Sub) (N := 4) hW in_Sub (hW _ wi_107)
  obtain ⟨k3, i3, h3⟩ := u_known (C := R_Top) (T := F_Top) (N := 7) hW in_Top (hW _ wi_41)
  obtain ⟨k4, i4, h4⟩ := u_known (C := R_Mod) (T := F_Mod) (N := 14) hW in_Mod (hW _ wi_452)
  obtain ⟨cI, kI, cmI, g1, g2, g3⟩ := Cond.arrayClass_spec (hW _ wi_104)
  obtain ⟨cZ, kZ, cmZ, f1, f2, f3⟩ := Cond.arrayClass_spec (hW _ wi_132)
  have hAA : (Cond.arrayOver (.array .int)).before args s = true := hts _ (List.mem_of_getElem? (i := 77) rfl)
  have hAO : (Cond.arrayOver (.object "CollectedGroup$Subgroup")).before args s = true := hts _ (List.mem_of_getElem? (i := 106) rfl)
  have hCA : (Cond.castable "[I" "java/lang/Cloneable").before args s = true := hts _ (List.mem_of_getElem? (i := 64) rfl)
  obtain ⟨compA, cA, kA, a1, -, a3, a4, a5⟩ := arrayOverA_spec hAA
  obtain ⟨compS, cS, kS, s1, -, s3, s4, s5⟩ := Cond.arrayOver_spec hAO
  refine ⟨(fun k => match k with | 0 => k0 | 1 => k1 | 2 => k2 | 3 => k3 | _ => k4, fun k => match k with | 0 => i0 | 1 => i1 | 2 => i2 | 3 => i3 | _ => i4), fun k => match k with | 0 => cI | 1 => cZ | 2 => cA | _ => cS, ⟨fun c q hq => ?_, fun k q hk => ?_⟩, va_AO.of hAO, hAA, va_Nw.of rfl hCA⟩
  · match c, hq with
    | 0, hq => cases hq; exact h0
    | 1, hq => cases hq; exact h1
    | 2, hq => cases hq; exact h2
    | 3, hq => cases hq; exact h3
    | 4, hq => cases hq; exact h4
    | c + 5, hq => simp at hq
  · match k, hk with
    | 0, hk => cases hk; exact ⟨fun N z => ⟨(fun q hq => by cases hq), kI, g2, cmI, g3⟩, g1⟩
    | 1, hk => cases hk; exact ⟨fun N z => ⟨(fun q hq => by cases hq), kZ, f2, cmZ, f3⟩, f1⟩
    | 2, hk => cases hk; exact ⟨fun N z => ⟨(fun q hq => by cases hq), kA, a3, compA, a4⟩, a5⟩
    | 3, hk => cases hk; exact ⟨fun N z => ⟨(fun q hq => by cases hq), kS, s3, compS, s4⟩, kS, compS, s3, s4, s1, s5⟩
    | k + 4, hk => simp at hk
set_option maxHeartbeats 4000000 in
set_option maxRecDepth 20000 in
/-- the law's loop -/
theorem lw_loop {p : Program} {l : Launch} {e : Env} {s : State} {m : MethodId} {below : List Frame} {meth : Method} {c : Code} {b L : Nat} {xs : Nat → Int32} {z : zz_Z} (hx : p.tables.exec = Jvm.exec) (hb : c.code = code) (hret : meth.sig.returnType = ret) (hlocks : meth.locks = false) (G : lw_G p s m #[Value.ref b] c z b L xs (rw_A s.heap.size)) :
    ∀ (d i : Nat) (σ : hw_M) (H : Heap) (locs : List Loc) (ls : Array Slot), L + 8 - i < d → i ≤ L + 8 → lw_V z (rw_A s.heap.size) σ s.heap H locs → lw_J z σ → lv_has ls 4 [(0, .ref b), (1, .ref (zz_A z (0, 0))), (2, .ref (zz_A z (20, 0))), (3, .int (nI i))] → W p l e room_1 s m #[Value.ref b] below meth c H locs 83 21727 (lw_Z below #[Value.ref b] s) (F0 m 28 ls []) := by
  have X := G.1
  have hL := G.2.2.2.2.2
  intro d
  induction d with
  | zero => intro i σ H locs ls hd; exact absurd hd (Nat.not_lt_zero _)
  | succ d IH =>
    intro i σ H locs ls hd hi8 V hJ hl
    refine nw_iload_n X d_Law_law_28 rfl (lv_at hl 3 rfl) ?_
    refine nw_aload_n X d_Law_law_29 rfl (lv_at hl 0 rfl) ?_
    refine lw_len G V d_Law_law_30 ?_
    refine nw_iconst X 4 d_Law_law_31 (by decide) ?_
    refine lv_isub hx hb d_Law_law_32 ?_
    have hsub : (nI L - nI 4).toInt = (L : Int) - (4 : Nat) := pk_sub_toInt (by omega) (by decide)
    have hti : (nI i).toInt = (i : Int) := nI_toInt (by omega)
    refine lv_icmp_gt hx hb (tgt := 775) d_Law_law_33 (by decide) (fun hc => ?_) (fun hc => ?_)
    · refine nw_iconstv X 1 d_Law_law_775 (by decide) ?_
      refine va_forget (fun q hq => V.2.2.2.2 q hq) ?_
      refine W.widen (k := 600000) (n := 7302250) (by decide) (by decide) ?_
      exact lw_ret hx hb hret hlocks d_Law_law_776
    · have hi4 : i + 4 ≤ L := by
        rw [Int32.lt_iff_toInt_lt, hsub, hti] at hc
        omega
      refine nw_aload_n X d_Law_law_36 rfl (lv_at hl 0 rfl) ?_
      refine nw_iload_n X d_Law_law_37 rfl (lv_at hl 3 rfl) ?_
      refine lw_ld G V (by omega) d_Law_law_38 ?_
      refine nw_bipush X 31 d_Law_law_39 (by decide) ?_
      refine lv_iand hx hb d_Law_law_41 ?_
      obtain ⟨j, hj, hje⟩ := pk_andE (xs i) (m := nI 31) 5 (by decide +kernel)
      rw [hje]
      have K : ∀ (σ' : hw_M) (H' : Heap) (locs' : List Loc), lw_V z (rw_A s.heap.size) σ' s.heap H' locs' → lw_J z σ' → W p l e room_1 s m #[Value.ref b] below meth c H' locs' 83 21727 (lw_Z below #[Value.ref b] s) (F0 m 769 ls []) := by
        intro σ' H' locs' V hJ
        refine nw_iinc X (lv' := [(3, _), (0, _), (1, _), (2, _)]) (k := 3) 4 d_Law_law_769 hl rfl (by decide) (by decide) rfl (fun ls hl => ?_)
        refine nw_goto X (tgt := 28) d_Law_law_772 (by decide) ?_
        exact IH (i + 4) _ _ _ _ (by omega) (by omega) V hJ (lv_sub hl [1, 2, 3, 0] rfl)
      by_cases h25 : j < 25
      · rcases (show j = 0 ∨ j = 1 ∨ j = 2 ∨ j = 3 ∨ j = 4 ∨ j = 5 ∨ j = 6 ∨ j = 7 ∨ j = 8 ∨ j = 9 ∨ j = 10 ∨ j = 11 ∨ j = 12 ∨ j = 13 ∨ j = 14 ∨ j = 15 ∨ j = 16 ∨ j = 17 ∨ j = 18 ∨ j = 19 ∨ j = 20 ∨ j = 21 ∨ j = 22 ∨ j = 23 ∨ j = 24 by omega) with rfl | rfl | rfl | rfl | rfl | rfl | rfl | rfl | rfl | rfl | rfl | rfl | rfl | rfl | rfl | rfl | rfl | rfl | rfl | rfl | rfl | rfl | rfl | rfl | rfl
        · exact lv_tableIn hx hb (off := 114) (tgt := 156) d_Law_law_42 (by decide +kernel) (by decide +kernel) (by decide +kernel) (by decide) (lw_c0 G V hJ hi4 (by decide) hl K)
        · exact lv_tableIn hx hb (off := 127) (tgt := 169) d_Law_law_42 (by decide +kernel) (by decide +kernel) (by decide +kernel) (by decide) (lw_c1 G V hJ hi4 (by decide) hl K)
        · exact lv_tableIn hx hb (off := 140) (tgt := 182) d_Law_law_42 (by decide +kernel) (by decide +kernel) (by decide +kernel) (by decide) (lw_c2 G V hJ hi4 (by decide) hl K)
        · exact lv_tableIn hx hb (off := 163) (tgt := 205) d_Law_law_42 (by decide +kernel) (by decide +kernel) (by decide +kernel) (by decide) (lw_c3 G V hJ hi4 (by decide) hl K)
        · exact lv_tableIn hx hb (off := 196) (tgt := 238) d_Law_law_42 (by decide +kernel) (by decide +kernel) (by decide +kernel) (by decide) (lw_c4 G V hJ hi4 (by decide) hl K)
        · exact lv_tableIn hx hb (off := 239) (tgt := 281) d_Law_law_42 (by decide +kernel) (by decide +kernel) (by decide +kernel) (by decide) (lw_c5 G V hJ hi4 (by decide) hl K)
        · exact lv_tableIn hx hb (off := 252) (tgt := 294) d_Law_law_42 (by decide +kernel) (by decide +kernel) (by decide +kernel) (by decide) (lw_c6 G V hJ hi4 (by decide) hl K)
        · exact lv_tableIn hx hb (off := 263) (tgt := 305) d_Law_law_42 (by decide +kernel) (by decide +kernel) (by decide +kernel) (by decide) (lw_c7 G V hJ hi4 (by decide) hl K)
        · exact lv_tableIn hx hb (off := 276) (tgt := 318) d_Law_law_42 (by decide +kernel) (by decide +kernel) (by decide +kernel) (by decide) (lw_c8 G V hJ hi4 (by decide) hl K)
        · exact lv_tableIn hx hb (off := 309) (tgt := 351) d_Law_law_42 (by decide +kernel) (by decide +kernel) (by decide +kernel) (by decide) (lw_c9 G V hJ hi4 (by decide) hl K)
        · exact lv_tableIn hx hb (off := 342) (tgt := 384) d_Law_law_42 (by decide +kernel) (by decide +kernel) (by decide +kernel) (by decide) (lw_c10 G V hJ hi4 (by decide) hl K)
        · exact lv_tableIn hx hb (off := 375) (tgt := 417) d_Law_law_42 (by decide +kernel) (by decide +kernel) (by decide +kernel) (by decide) (lw_c11 G V hJ hi4 (by decide) hl K)
        · exact lv_tableIn hx hb (off := 408) (tgt := 450) d_Law_law_42 (by decide +kernel) (by decide +kernel) (by decide +kernel) (by decide) (lw_c12 G V hJ hi4 (by decide) hl K)
        · exact lv_tableIn hx hb (off := 431) (tgt := 473) d_Law_law_42 (by decide +kernel) (by decide +kernel) (by decide +kernel) (by decide) (lw_c13 G V hJ hi4 (by decide) hl K)
        · exact lv_tableIn hx hb (off := 454) (tgt := 496) d_Law_law_42 (by decide +kernel) (by decide +kernel) (by decide +kernel) (by decide) (lw_c14 G V hJ hi4 (by decide) hl K)
        · exact lv_tableIn hx hb (off := 487) (tgt := 529) d_Law_law_42 (by decide +kernel) (by decide +kernel) (by decide +kernel) (by decide) (lw_c15 G V hJ hi4 (by decide) hl K)
        · exact lv_tableIn hx hb (off := 510) (tgt := 552) d_Law_law_42 (by decide +kernel) (by decide +kernel) (by decide +kernel) (by decide) (lw_c16 G V hJ hi4 (by decide) hl K)
        · exact lv_tableIn hx hb (off := 553) (tgt := 595) d_Law_law_42 (by decide +kernel) (by decide +kernel) (by decide +kernel) (by decide) (lw_c17 G V hJ hi4 (by decide) hl K)
        · exact lv_tableIn hx hb (off := 576) (tgt := 618) d_Law_law_42 (by decide +kernel) (by decide +kernel) (by decide +kernel) (by decide) (lw_c18 G V hJ hi4 (by decide) hl K)
        · exact lv_tableIn hx hb (off := 609) (tgt := 651) d_Law_law_42 (by decide +kernel) (by decide +kernel) (by decide +kernel) (by decide) (lw_c19 G V hJ hi4 (by decide) hl K)
        · exact lv_tableIn hx hb (off := 632) (tgt := 674) d_Law_law_42 (by decide +kernel) (by decide +kernel) (by decide +kernel) (by decide) (lw_c20 G V hJ hi4 (by decide) hl K)
        · exact lv_tableIn hx hb (off := 655) (tgt := 697) d_Law_law_42 (by decide +kernel) (by decide +kernel) (by decide +kernel) (by decide) (lw_c21 G V hJ hi4 (by decide) hl K)
        · exact lv_tableIn hx hb (off := 668) (tgt := 710) d_Law_law_42 (by decide +kernel) (by decide +kernel) (by decide +kernel) (by decide) (lw_c22 G V hJ hi4 (by decide) hl K)
        · exact lv_tableIn hx hb (off := 681) (tgt := 723) d_Law_law_42 (by decide +kernel) (by decide +kernel) (by decide +kernel) (by decide) (lw_c23 G V hJ hi4 (by decide) hl K)
        · exact lv_tableIn hx hb (off := 704) (tgt := 746) d_Law_law_42 (by decide +kernel) (by decide +kernel) (by decide +kernel) (by decide) (lw_c24 G V hJ hi4 (by decide) hl K)
      · refine lv_tableOut hx hb (tgt := 769) d_Law_law_42 (Or.inr ?_) (by decide) ?_
        · rw [nI_toInt (show j < 2 ^ 31 by omega)]
          omega
        · exact K _ _ _ V hJ
set_option maxHeartbeats 4000000 in
set_option maxRecDepth 20000 in
theorem whole_start {p : Program} {e : Env} {s : State} {m : MethodId} {below : List Frame} {meth : Method} {c : Code} (l : Launch) {b L : Nat} {xs : Nat → Int32} (hL : L ≤ 2049) (C0 : lw_At p s m meth c b L xs) : W p l e room_1 s m #[Value.ref b] below meth c s.heap [] 0 0 (lw_Z below #[Value.ref b] s) (entryFrame m ([Value.ref b] : List Value).toArray 4) := by
  obtain ⟨hx, hb, hret, hml, hown, hts, hX, hbl, hlocks, hgv⟩ := C0
  obtain ⟨D, C, hK⟩ := lw_K hts
  have X : rw_x p c s m #[Value.ref b] code 4 R_Law D C := ⟨⟨⟨hx, hb, hml, hown, fun w hw => hts w (List.mem_filter.mp hw).1⟩, hK.1⟩, hK.2⟩
  have V : rw_v D s.heap.size (fun _ => none) s.heap.size s.heap s.heap [] := ⟨rfl, ⟨Nat.le_refl _, fun q e h => by cases h⟩, va_S.rf⟩
  have hl := lv_entry [Value.ref b] (n := 4) (Nat.le_of_ble_eq_true rfl)
  rw [lg_entry_eq]
  generalize (lg_sl [Value.ref b] ++ List.replicate (4 - (lg_sl [Value.ref b]).length) Slot.unset).toArray = ls at hl ⊢
  have hl : lv_has ls 4 [(0, .ref b)] := hl
  refine rw_new X V 3 rfl in_Top t_Top t_Top_ok wi_40 wi_41 wi_32 [.null, .null, .null, .null, .null, .null, .int 0] (by decide) (by decide) (by decide) d_Law_law_0 (fun H V => ?_)
  refine nw_dup X.1 d_Law_law_3 rfl ?_
  refine nw_aload_n X.1 d_Law_law_4 rfl (lv_at hl 0 rfl) ?_
  refine nw_iconst X.1 0 d_Law_law_5 (by decide) ?_
  refine lw_cellc X V hX hbl hbl hL hl.1 (Nat.le_of_ble_eq_true rfl) (by decide) (by decide) d_Law_law_6 (fun H locs V => ?_)
  refine rw_callI (n := 1) X V (rm_Top_init l D C _ _ _ s.heap.size (lw_x L xs) rw_at) ⟨wi_42, wi_32, wi_44, by decide +kernel⟩ ⟨rfl, wi_43⟩ ⟨by decide, Nat.le_of_ble_eq_true rfl⟩ rfl hl.1 rfl (Nat.le_of_ble_eq_true rfl) (by decide) d_Law_law_9 (fun w1 h1 H locs V hr => ?_)
  obtain ⟨n, P, N, f, gm, gc, g, R, wc, w0, ht⟩ := hr
  have hh1 : h1 = P + 39 := ht.2.2.2.1
  subst hh1
  refine nw_astore_n X.1 (lv' := [(1, _), (0, _)]) d_Law_law_12 rfl hl (by decide) rfl (fun ls hl => ?_)
  refine rw_new X V 4 rfl in_Mod t_Mod t_Mod_ok wi_451 wi_452 wi_39 [.int 0, .int 0, .null, .null, .null, .null, .int 0, .null, .null, .null, .null, .null, .null, .null] (by decide) (by decide) (by decide) d_Law_law_13 (fun H V => ?_)
  refine nw_dup X.1 d_Law_law_16 rfl ?_
  refine nw_aload_n X.1 d_Law_law_17 rfl (lv_at hl 1 rfl) ?_
  refine nw_iconst X.1 0 d_Law_law_18 (by decide) ?_
  refine lw_cellc X V hX hbl hbl hL hl.1 (Nat.le_of_ble_eq_true rfl) (by decide) (by decide) d_Law_law_19 (fun H locs V => ?_)
  refine rw_callI (n := 1) X V (rm_Mod_init l D C _ _ _ (P + 39) (lw_x L xs) rw_at) ⟨wi_453, wi_39, wi_455, by decide +kernel⟩ ⟨rfl, wi_454⟩ ⟨by decide, Nat.le_of_ble_eq_true rfl⟩ rfl hl.1 rfl (Nat.le_of_ble_eq_true rfl) (by decide) d_Law_law_22 (fun w2 h2 H locs V hr => ?_)
  obtain ⟨n', fw, ft, hg', hh2, hmi, hW, hT, hft⟩ := hr
  have hnn : n' = n := dg_u hg' ht.1
  subst hnn
  have hNq : dg_q (lw_x L xs) n' = N := by rw [ht.2.2.1, wt_n dg_fr]
  rw [hNq] at hmi
  refine nw_astore_n X.1 (lv' := [(2, _), (1, _), (0, _)]) d_Law_law_25 rfl hl (by decide) rfl (fun ls hl => ?_)
  refine nw_iconst X.1 1 d_Law_law_26 (by decide) ?_
  refine nw_istore_n X.1 (lv' := [(3, _), (2, _), (1, _), (0, _)]) d_Law_law_27 rfl hl (by decide) rfl (fun ls hl => ?_)
  have hP := ht.2.1
  have hw := zt_w rfl ht hmi V.2.1 hW.2 hft
  have hJ := zt_J (D := D) ht hW hT
  refine lw_loop (z := zt D C s.heap.size (s.heap.size + 1) n' P N (lw_x L xs)) hx hb hret hlocks ⟨X.1, fun k h => h, hX, hbl, by show ¬ s.heap.size ≤ b; omega, hL⟩ (L + 9) 1 _ H locs ls (by omega) (by omega) ⟨hw, fun k hk => za_ge rfl hP k.1 k.2 hk, V.2.2⟩ hJ (lv_sub hl [3, 2, 1, 0] rfl)
