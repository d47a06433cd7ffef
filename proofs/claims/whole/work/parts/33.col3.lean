/-! The Collector: building a level. By program (wip/whole/gen/col3.py). -/
set_option maxHeartbeats 4000000 in
set_option maxRecDepth 20000 in
theorem cm_Col_movedOnce (l : Launch) (z : zz_Z) (σ : hw_M) (hz : ∀ k, zz_k (zz_n z) k → zz_O z k) (i : Nat) (hi : i < zz_n z) (hL : lo_ok z σ (i + 1)) (hc6 : ∀ j, i < j → j < zz_n z → σ (6, i) j < σ (3, 0) i) (x : Nat) (hx : x < σ (3, 0) i) (hm : ∀ y, y < x → σ (8, i) (σ (3, 0) i + y) = mo_t z σ i y) : Met l y_Col_movedOnce (hw_c y_Col_movedOnce b_Col_movedOnce 6 (some .int)) (hw_r 1) (va_Pc [.ref (zz_A z (1, 0)), .int (nI i), .int (nI x)] (zz_B z σ)) (va_Qi (fun r σ' => σ' = σ ∧ r = nI (mo_t z σ i x)) (zz_B z) (zz_F z)) 0 0 (zz_F z) := by
  refine hw_meti (post := (fun r σ' => σ' = σ ∧ r = nI (mo_t z σ i x))) (by decide) (Nat.le_of_ble_eq_true rfl) ?_
  intro p e s m args below meth c ls Q X hret V hl
  have hl : lv_has ls 6 [(0, .ref (zz_A z (1, 0))), (1, .int (nI i)), (2, .int (nI x))] := hl
  have hB := V.1.2.2
  obtain ⟨⟨hn7, hN, hn, hNe, hw, hsz, hln⟩, hk, ht⟩ := id hL
  have hq := st_lv hL.1 hi
  have ez := st_sz hL.1 hi
  have hq6 := hq.2.2.2.2.2.1
  refine nw_aload_n X d_Col_movedOnce_0 rfl (lv_at hl 0 rfl) ?_
  refine gf_Col_17 X V (hz (1, 0) (by first | exact rfl | assumption | exact (by omega : _ < _))) d_Col_movedOnce_1 ?_
  refine nw_iload_n X d_Col_movedOnce_4 rfl (lv_at hl 1 rfl) ?_
  refine hw_iald X V (hz (3, 0) (by first | exact rfl | assumption | exact (by omega : _ < _))) 0 rfl rfl hi (by omega) d_Col_movedOnce_5 ?_
  refine nw_istore_n X (lv' := [(3, _), (0, _), (1, _), (2, _)]) d_Col_movedOnce_6 rfl hl (by decide) rfl (fun ls hl => ?_)
  refine nw_iload_n X d_Col_movedOnce_7 rfl (lv_at hl 2 rfl) ?_
  refine nw_iconst X 1 d_Col_movedOnce_8 (by decide) ?_
  refine nw_iadd X d_Col_movedOnce_9 ?_
  refine nw_istore X (lv' := [(4, _), (3, _), (0, _), (1, _), (2, _)]) d_Col_movedOnce_10 hl (by decide) rfl (fun ls hl => ?_)
  have LP12 : ∀ (d j : Nat) (ls : Array Slot), zz_n z - j < d → (i < j) → (j ≤ zz_n z) → (∀ k, i < k → k < j → x < σ (3, 0) k) →  lv_has ls 6 [(0, .ref (zz_A z (1, 0))), (1, .int (nI i)), (2, .int (nI x)), (3, .int (nI (σ (3, 0) i))), (4, .int (nI j))] →  W p l e (hw_r 1) s m args below meth c s.heap [] 0 0 Q (F0 m 12 ls []) := by
    intro d
    induction d with
    | zero => intro j ls hd; exact absurd hd (Nat.not_lt_zero _)
    | succ d IH12 =>
      intro j ls hd hij hjn hlt hl
      refine nw_iload X d_Col_movedOnce_12 (lv_at hl 4 rfl) ?_
      refine nw_aload_n X d_Col_movedOnce_14 rfl (lv_at hl 0 rfl) ?_
      refine gf_Col_7 X V (hz (1, 0) (by first | exact rfl | assumption | exact (by omega : _ < _))) d_Col_movedOnce_15 ?_
      rw [hn]
      refine nw_icmp_ge X (tgt := 77) d_Col_movedOnce_18 (by decide) (by first | assumption | omega) (by first | assumption | omega) (fun hc => ?_) (fun hc => ?_)
      · skip
        have hx0 := tb_none hw hi hx (fun k h1 h2 => hlt k h1 (by omega))
        refine nw_iconst X 0 d_Col_movedOnce_77 (by decide) ?_
        exact hret _ _ _ _ _ _ d_Col_movedOnce_78 V ⟨rfl, by rw [hx0]; exact congrArg nI (tb_s_0 hw i).symm⟩
      · skip
        have hj := hc
        clear hc
        have hqj := st_lv hL.1 hj
        refine nw_iload_n X d_Col_movedOnce_21 rfl (lv_at hl 2 rfl) ?_
        refine nw_aload_n X d_Col_movedOnce_22 rfl (lv_at hl 0 rfl) ?_
        refine gf_Col_17 X V (hz (1, 0) (by first | exact rfl | assumption | exact (by omega : _ < _))) d_Col_movedOnce_23 ?_
        refine nw_iload X d_Col_movedOnce_26 (lv_at hl 4 rfl) ?_
        refine hw_iald X V (hz (3, 0) (by first | exact rfl | assumption | exact (by omega : _ < _))) 0 rfl rfl hj (by omega) d_Col_movedOnce_28 ?_
        refine nw_icmp_lt X (tgt := 71) d_Col_movedOnce_29 (by decide) (by omega) (by omega) (fun hc => ?_) (fun hc => ?_)
        · skip
          refine nw_iinc X (lv' := [(4, _), (0, _), (1, _), (2, _), (3, _)]) (k := 4) 1 d_Col_movedOnce_71 hl rfl (by decide) (by decide) rfl (fun ls hl => ?_)
          refine nw_goto X (tgt := 12) d_Col_movedOnce_74 (by decide) ?_
          exact IH12 (j + 1) _ (by omega) (by omega) hj (fun k h1 h2 => by by_cases e : k = j; rw [e]; exact hc; exact hlt k h1 (by omega)) (lv_sub hl [1, 2, 3, 4, 0] rfl)
        · skip
          have hwl : σ (3, 0) j < σ (3, 0) i := hw.lt hij hj
          have hle := hw.pos' hj
          refine nw_aload_n X d_Col_movedOnce_32 rfl (lv_at hl 0 rfl) ?_
          refine gf_Col_29 X V (hz (1, 0) (by first | exact rfl | assumption | exact (by omega : _ < _))) d_Col_movedOnce_33 ?_
          refine nw_iload_n X d_Col_movedOnce_36 rfl (lv_at hl 1 rfl) ?_
          refine hw_aald X V (hz (7, 0) (by first | exact rfl | assumption | exact (by omega : _ < _))) 2 rfl rfl rfl hi (by omega) rfl d_Col_movedOnce_37 ?_
          refine nw_iload_n X d_Col_movedOnce_38 rfl (lv_at hl 3 rfl) ?_
          refine nw_iload_n X d_Col_movedOnce_39 rfl (lv_at hl 2 rfl) ?_
          refine nw_iadd X d_Col_movedOnce_40 ?_
          refine nw_aload_n X d_Col_movedOnce_41 rfl (lv_at hl 0 rfl) ?_
          refine gf_Col_17 X V (hz (1, 0) (by first | exact rfl | assumption | exact (by omega : _ < _))) d_Col_movedOnce_42 ?_
          refine nw_iload X d_Col_movedOnce_45 (lv_at hl 4 rfl) ?_
          refine hw_iald X V (hz (3, 0) (by first | exact rfl | assumption | exact (by omega : _ < _))) 0 rfl rfl hj (by omega) d_Col_movedOnce_47 ?_
          refine nw_isub X (by omega) d_Col_movedOnce_48 ?_
          refine hw_iald X V (hz (8, i) (by first | exact rfl | assumption | exact (by omega : _ < _))) 0 rfl rfl (Nat.lt_of_lt_of_eq (by omega) hq6.symm) (Nat.lt_of_le_of_lt (Nat.le_of_eq hq6) (by omega)) d_Col_movedOnce_49 ?_
          rw [show σ (3, 0) i + x - σ (3, 0) j = σ (3, 0) i + (x - σ (3, 0) j) by omega, hm (x - σ (3, 0) j) (by omega)]
          refine nw_istore X (lv' := [(5, _), (0, _), (1, _), (2, _), (3, _), (4, _)]) d_Col_movedOnce_50 hl (by decide) rfl (fun ls hl => ?_)
          refine nw_aload_n X d_Col_movedOnce_52 rfl (lv_at hl 1 rfl) ?_
          refine nw_iload_n X d_Col_movedOnce_53 rfl (lv_at hl 2 rfl) ?_
          refine nw_iconst X 1 d_Col_movedOnce_54 (by decide) ?_
          refine nw_iadd X d_Col_movedOnce_55 ?_
          refine nw_aload_n X d_Col_movedOnce_56 rfl (lv_at hl 1 rfl) ?_
          refine gf_Col_25 X V (hz (1, 0) (by first | exact rfl | assumption | exact (by omega : _ < _))) d_Col_movedOnce_57 ?_
          refine nw_iload_n X d_Col_movedOnce_60 rfl (lv_at hl 2 rfl) ?_
          refine hw_aald X V (hz (5, 0) (by first | exact rfl | assumption | exact (by omega : _ < _))) 2 rfl rfl rfl hi (by omega) rfl d_Col_movedOnce_61 ?_
          refine nw_iload X d_Col_movedOnce_62 (lv_at hl 5 rfl) ?_
          refine hw_iald X V (hz (6, i) (by first | exact rfl | assumption | exact (by omega : _ < _))) 0 rfl rfl hj (by omega) d_Col_movedOnce_64 ?_
          refine nw_iload X d_Col_movedOnce_65 (lv_at hl 0 rfl) ?_
          refine hw_calli X V (hz (1, 0) (by first | exact rfl | assumption | exact (by omega : _ < _))) rfl rfl (cm_Col_multiplyFrom l z σ hz (i + 1) _ _ hi hL (by rw [ez.2]; exact hc6 j hij hj) (by rw [ez.2]; exact tb_s_l hw hi hk hc6 _)) cs_Col_58 (by decide) rfl hl.1 rfl (Nat.le_of_ble_eq_true rfl) (by decide) d_Col_movedOnce_67 (fun r σ' H locs V hr => ?_)
          obtain ⟨hσ, rfl⟩ := hr
          rw [hσ] at V
          clear hσ
          have hB := V.1.2.2
          exact hret _ _ _ _ _ _ d_Col_movedOnce_70 V ⟨rfl, congrArg nI (tb_lead hw hi hk hc6 hx hij hj hc hlt).symm⟩
  exact LP12 (zz_n z + 1) (i + 1) _ (by omega) (by omega) hi (fun k h1 h2 => by omega) (lv_sub hl [2, 3, 4, 1, 0] rfl)
set_option maxHeartbeats 4000000 in
set_option maxRecDepth 20000 in
theorem cm_Col_fillMoves (l : Launch) (z : zz_Z) (σ : hw_M) (hz : ∀ k, zz_k (zz_n z) k → zz_O z k) (i : Nat) (hi : i < zz_n z) (hL : lo_ok z σ (i + 1)) (hc6 : ∀ j, i < j → j < zz_n z → σ (6, i) j < σ (3, 0) i) : Met l y_Col_fillMoves (hw_c y_Col_fillMoves b_Col_fillMoves 5 none) (hw_r 2) (va_Pc [.ref (zz_A z (1, 0)), .int (nI i)] (zz_B z σ)) (va_Qv (fun σ' => (∀ u : hw_P, u ≠ (8, i) → σ' u = σ u) ∧ ∀ y, y < σ (2, 0) i * σ (3, 0) i → σ' (8, i) y = ex_it (mo_t z σ i) (y / σ (3, 0) i) (y % σ (3, 0) i)) (zz_B z) (zz_F z)) 0 0 (zz_F z) := by
  refine hw_metv (post := (fun σ' => (∀ u : hw_P, u ≠ (8, i) → σ' u = σ u) ∧ ∀ y, y < σ (2, 0) i * σ (3, 0) i → σ' (8, i) y = ex_it (mo_t z σ i) (y / σ (3, 0) i) (y % σ (3, 0) i))) (by decide) (Nat.le_of_ble_eq_true rfl) ?_
  intro p e s m args below meth c ls Q X hret V hl
  have hl : lv_has ls 5 [(0, .ref (zz_A z (1, 0))), (1, .int (nI i))] := hl
  have hB := V.1.2.2
  obtain ⟨⟨hn7, hN, hn, hNe, hw, hsz, hln⟩, hk, ht⟩ := id hL
  have hq := st_lv hL.1 hi
  have ez := st_sz hL.1 hi
  have hq6 := hq.2.2.2.2.2.1
  refine nw_aload_n X d_Col_fillMoves_0 rfl (lv_at hl 0 rfl) ?_
  refine gf_Col_17 X V (hz (1, 0) (by first | exact rfl | assumption | exact (by omega : _ < _))) d_Col_fillMoves_1 ?_
  refine nw_iload_n X d_Col_fillMoves_4 rfl (lv_at hl 1 rfl) ?_
  refine hw_iald X V (hz (3, 0) (by first | exact rfl | assumption | exact (by omega : _ < _))) 0 rfl rfl hi (by omega) d_Col_fillMoves_5 ?_
  refine nw_istore_n X (lv' := [(2, _), (0, _), (1, _)]) d_Col_fillMoves_6 rfl hl (by decide) rfl (fun ls hl => ?_)
  refine nw_aload_n X d_Col_fillMoves_7 rfl (lv_at hl 1 rfl) ?_
  refine gf_Col_29 X V (hz (1, 0) (by first | exact rfl | assumption | exact (by omega : _ < _))) d_Col_fillMoves_8 ?_
  refine nw_iload_n X d_Col_fillMoves_11 rfl (lv_at hl 2 rfl) ?_
  refine hw_aald X V (hz (7, 0) (by first | exact rfl | assumption | exact (by omega : _ < _))) 2 rfl rfl rfl hi (by omega) rfl d_Col_fillMoves_12 ?_
  refine nw_astore_n X (lv' := [(3, _), (2, _), (0, _), (1, _)]) d_Col_fillMoves_13 rfl hl (by decide) rfl (fun ls hl => ?_)
  refine nw_iconst X 0 d_Col_fillMoves_14 (by decide) ?_
  refine nw_istore X (lv' := [(4, _), (3, _), (2, _), (0, _), (1, _)]) d_Col_fillMoves_15 hl (by decide) rfl (fun ls hl => ?_)
  have LP17 : ∀ (d x : Nat) (σ1 : hw_M) (H : Heap) (locs : List Loc) (ls : Array Slot), σ (3, 0) i - x < d → (x ≤ σ (3, 0) i) → (∀ u : hw_P, u ≠ (8, i) → σ1 u = σ u) → (∀ y, y < x → σ1 (8, i) y = ex_it (mo_t z σ i) (y / σ (3, 0) i) (y % σ (3, 0) i)) → zz_V z σ1 s.heap H locs →  lv_has ls 5 [(0, .ref (zz_A z (1, 0))), (1, .int (nI i)), (2, .int (nI (σ (3, 0) i))), (3, .ref (zz_A z (8, i))), (4, .int (nI x))] →  W p l e (hw_r 2) s m args below meth c H locs 0 0 Q (F0 m 17 ls []) := by
    intro d
    induction d with
    | zero => intro x σ1 H locs ls hd; exact absurd hd (Nat.not_lt_zero _)
    | succ d IH17 =>
      intro x σ1 H locs ls hd hx hfr hv V hl
      have hB := V.1.2.2
      refine nw_iload X d_Col_fillMoves_17 (lv_at hl 4 rfl) ?_
      refine nw_iload_n X d_Col_fillMoves_19 rfl (lv_at hl 2 rfl) ?_
      refine nw_icmp_ge X (tgt := 35) d_Col_fillMoves_20 (by decide) (by first | assumption | omega) (by first | assumption | omega) (fun hc => ?_) (fun hc => ?_)
      · skip
        refine nw_iconst X 0 d_Col_fillMoves_35 (by decide) ?_
        refine nw_istore X (lv' := [(4, _), (0, _), (1, _), (2, _), (3, _)]) d_Col_fillMoves_36 hl (by decide) rfl (fun ls hl => ?_)
        have LP38 : ∀ (d x : Nat) (σ1 : hw_M) (H : Heap) (locs : List Loc) (ls : Array Slot), σ (3, 0) i - x < d → (x ≤ σ (3, 0) i) → (∀ u : hw_P, u ≠ (8, i) → σ1 u = σ u) → (∀ y, y < (σ (3, 0) i + x) → σ1 (8, i) y = ex_it (mo_t z σ i) (y / σ (3, 0) i) (y % σ (3, 0) i)) → zz_V z σ1 s.heap H locs →  lv_has ls 5 [(0, .ref (zz_A z (1, 0))), (1, .int (nI i)), (2, .int (nI (σ (3, 0) i))), (3, .ref (zz_A z (8, i))), (4, .int (nI x))] →  W p l e (hw_r 2) s m args below meth c H locs 0 0 Q (F0 m 38 ls []) := by
          intro d
          induction d with
          | zero => intro x σ1 H locs ls hd; exact absurd hd (Nat.not_lt_zero _)
          | succ d IH38 =>
            intro x σ1 H locs ls hd hx hfr hv V hl
            have hB := V.1.2.2
            have hK := lo_keep hL (lo_fr8 (f := i + 1) hfr (Nat.lt_succ_self i))
            refine nw_iload X d_Col_fillMoves_38 (lv_at hl 4 rfl) ?_
            refine nw_iload_n X d_Col_fillMoves_40 rfl (lv_at hl 2 rfl) ?_
            refine nw_icmp_ge X (tgt := 63) d_Col_fillMoves_41 (by decide) (by first | assumption | omega) (by first | assumption | omega) (fun hc => ?_) (fun hc => ?_)
            · skip
              refine nw_iconst X 2 d_Col_fillMoves_63 (by decide) ?_
              refine nw_iload_n X d_Col_fillMoves_64 rfl (lv_at hl 2 rfl) ?_
              refine nw_imul X d_Col_fillMoves_65 ?_
              refine nw_istore X (lv' := [(4, _), (0, _), (1, _), (2, _), (3, _)]) d_Col_fillMoves_66 hl (by decide) rfl (fun ls hl => ?_)
              have LP68 : ∀ (d k : Nat) (σ1 : hw_M) (H : Heap) (locs : List Loc) (ls : Array Slot), σ (2, 0) i * σ (3, 0) i - k < d → (2 * σ (3, 0) i ≤ k) → (k ≤ σ (2, 0) i * σ (3, 0) i) → (∀ u : hw_P, u ≠ (8, i) → σ1 u = σ u) → (∀ y, y < k → σ1 (8, i) y = ex_it (mo_t z σ i) (y / σ (3, 0) i) (y % σ (3, 0) i)) → zz_V z σ1 s.heap H locs →  lv_has ls 5 [(0, .ref (zz_A z (1, 0))), (1, .int (nI i)), (2, .int (nI (σ (3, 0) i))), (3, .ref (zz_A z (8, i))), (4, .int (nI k))] →  W p l e (hw_r 2) s m args below meth c H locs 0 0 Q (F0 m 68 ls []) := by
                intro d
                induction d with
                | zero => intro k σ1 H locs ls hd; exact absurd hd (Nat.not_lt_zero _)
                | succ d IH68 =>
                  intro k σ1 H locs ls hd hk2 hkl hfr hv V hl
                  have hB := V.1.2.2
                  refine nw_iload X d_Col_fillMoves_68 (lv_at hl 4 rfl) ?_
                  refine nw_aload_n X d_Col_fillMoves_70 rfl (lv_at hl 3 rfl) ?_
                  refine hw_alen X V (hz (8, i) (by first | exact rfl | assumption | exact (by omega : _ < _))) 0 rfl rfl d_Col_fillMoves_71 ?_
                  rw [show ((zz_l z (8, i).2 : Nat)) = σ (2, 0) i * σ (3, 0) i from hq6]
                  refine nw_icmp_ge X (tgt := 95) d_Col_fillMoves_72 (by decide) (by omega) (by omega) (fun hc => ?_) (fun hc => ?_)
                  · skip
                    exact hret _ _ _ _ _ d_Col_fillMoves_95 V ⟨hfr, fun y hy => hv y (by omega)⟩
                  · skip
                    have e1 : σ1 (8, i) (k - σ (3, 0) i) = ex_it (mo_t z σ i) ((k - σ (3, 0) i) / σ (3, 0) i) ((k - σ (3, 0) i) % σ (3, 0) i) := hv _ (by omega)
                    have e3 : σ1 (8, i) (k - σ (3, 0) i) < σ (3, 0) i := by rw [e1]; exact tb_it_l hw hi hk hc6 (Nat.mod_lt _ (by omega)) _
                    have e2 : σ1 (8, i) (σ (3, 0) i + σ1 (8, i) (k - σ (3, 0) i)) = mo_t z σ i (σ1 (8, i) (k - σ (3, 0) i)) := by rw [hv _ (by omega), fm_d1 e3, fm_m1 e3]; rfl
                    refine nw_aload_n X d_Col_fillMoves_75 rfl (lv_at hl 3 rfl) ?_
                    refine nw_iload X d_Col_fillMoves_76 (lv_at hl 4 rfl) ?_
                    refine nw_aload_n X d_Col_fillMoves_78 rfl (lv_at hl 3 rfl) ?_
                    refine nw_iload_n X d_Col_fillMoves_79 rfl (lv_at hl 2 rfl) ?_
                    refine nw_aload_n X d_Col_fillMoves_80 rfl (lv_at hl 3 rfl) ?_
                    refine nw_iload X d_Col_fillMoves_81 (lv_at hl 4 rfl) ?_
                    refine nw_iload_n X d_Col_fillMoves_83 rfl (lv_at hl 2 rfl) ?_
                    refine nw_isub X (by omega) d_Col_fillMoves_84 ?_
                    refine hw_iald X V (hz (8, i) (by first | exact rfl | assumption | exact (by omega : _ < _))) 0 rfl rfl (Nat.lt_of_lt_of_eq (by omega) hq6.symm) (Nat.lt_of_le_of_lt (Nat.le_of_eq hq6) (by omega)) d_Col_fillMoves_85 ?_
                    refine nw_iadd X d_Col_fillMoves_86 ?_
                    refine hw_iald X V (hz (8, i) (by first | exact rfl | assumption | exact (by omega : _ < _))) 0 rfl rfl (Nat.lt_of_lt_of_eq (by omega) hq6.symm) (Nat.lt_of_le_of_lt (Nat.le_of_eq hq6) (by omega)) d_Col_fillMoves_87 ?_
                    refine hw_iast X V (hz (8, i) (by first | exact rfl | assumption | exact (by omega : _ < _))) 0 (fun _ => rfl) rfl (Nat.lt_of_lt_of_eq hc hq6.symm) (Nat.lt_of_le_of_lt (Nat.le_of_eq hq6) (by omega)) (hB _ _) d_Col_fillMoves_88 (fun H locs V => ?_)
                    refine nw_iinc X (lv' := [(4, _), (0, _), (1, _), (2, _), (3, _)]) (k := 4) 1 d_Col_fillMoves_89 hl rfl (by decide) (by decide) rfl (fun ls hl => ?_)
                    refine nw_goto X (tgt := 68) d_Col_fillMoves_92 (by decide) ?_
                    exact IH68 (k + 1) _ _ _ _ (by omega) (by omega) hc (fun u hu => (hw_up_k _ _ _ hu).trans (hfr u hu)) (fm_put hv (by rw [e2, e1]; exact fm_next (by omega) (by omega))) V (lv_sub hl [1, 2, 3, 4, 0] rfl)
              exact LP68 (σ (2, 0) i * σ (3, 0) i + 1) _ _ _ _ _ (by omega) (Nat.le_refl _) hq.2.2.2.2.2.2 hfr (by rw [show 2 * σ (3, 0) i = σ (3, 0) i + x by omega]; exact hv) V (lv_sub hl [1, 2, 3, 4, 0] rfl)
            · skip
              refine nw_aload_n X d_Col_fillMoves_44 rfl (lv_at hl 3 rfl) ?_
              refine nw_iload_n X d_Col_fillMoves_45 rfl (lv_at hl 2 rfl) ?_
              refine nw_iload X d_Col_fillMoves_46 (lv_at hl 4 rfl) ?_
              refine nw_iadd X d_Col_fillMoves_48 ?_
              refine nw_aload_n X d_Col_fillMoves_49 rfl (lv_at hl 0 rfl) ?_
              refine nw_iload_n X d_Col_fillMoves_50 rfl (lv_at hl 1 rfl) ?_
              refine nw_iload X d_Col_fillMoves_51 (lv_at hl 4 rfl) ?_
              refine hw_calli X V (hz (1, 0) (by first | exact rfl | assumption | exact (by omega : _ < _))) rfl rfl (cm_Col_movedOnce l z σ1 hz i hi hK.1 (fun j h1 h2 => by rw [hfr (6, i) (hw_ne (by decide)), hfr (3, 0) (hw_ne (by decide))]; exact hc6 j h1 h2) x (by rw [hfr (3, 0) (hw_ne (by decide))]; exact hc) (fun y hy => by rw [hfr (3, 0) (hw_ne (by decide)), hv _ (by omega), fm_d1 (show y < σ (3, 0) i by omega), fm_m1 (show y < σ (3, 0) i by omega), hK.2.2.1]; rfl)) cs_Col_73 (by decide) rfl hl.1 rfl (Nat.le_of_ble_eq_true rfl) (by decide) d_Col_fillMoves_53 (fun r σ' H locs V hr => ?_)
              obtain ⟨hσ, rfl⟩ := hr
              rw [hσ] at V
              clear hσ
              have hB := V.1.2.2
              rw [hK.2.2.1]
              refine hw_iast X V (hz (8, i) (by first | exact rfl | assumption | exact (by omega : _ < _))) 0 (fun _ => rfl) rfl (Nat.lt_of_lt_of_eq (by omega) hq6.symm) (Nat.lt_of_le_of_lt (Nat.le_of_eq hq6) (by omega)) (by have : mo_t z σ i x < σ (3, 0) i := tb_s_l hw hi hk hc6 x; omega) d_Col_fillMoves_56 (fun H locs V => ?_)
              refine nw_iinc X (lv' := [(4, _), (0, _), (1, _), (2, _), (3, _)]) (k := 4) 1 d_Col_fillMoves_57 hl rfl (by decide) (by decide) rfl (fun ls hl => ?_)
              refine nw_goto X (tgt := 38) d_Col_fillMoves_60 (by decide) ?_
              exact IH38 (x + 1) _ _ _ _ (by omega) hc (fun u hu => (hw_up_k _ _ _ hu).trans (hfr u hu)) (fm_put hv (by show mo_t z σ i x = ex_it (mo_t z σ i) ((σ (3, 0) i + x) / σ (3, 0) i) ((σ (3, 0) i + x) % σ (3, 0) i); rw [fm_d1 hc, fm_m1 hc]; rfl)) V (lv_sub hl [1, 2, 3, 4, 0] rfl)
        exact LP38 (σ (3, 0) i + 1) 0 _ _ _ _ (by omega) (Nat.zero_le _) hfr (by rw [show σ (3, 0) i + 0 = x by omega]; exact hv) V (lv_sub hl [1, 2, 3, 4, 0] rfl)
      · skip
        refine nw_aload_n X d_Col_fillMoves_23 rfl (lv_at hl 3 rfl) ?_
        refine nw_iload X d_Col_fillMoves_24 (lv_at hl 4 rfl) ?_
        refine nw_iload X d_Col_fillMoves_26 (lv_at hl 4 rfl) ?_
        refine hw_iast X V (hz (8, i) (by first | exact rfl | assumption | exact (by omega : _ < _))) 0 (fun _ => rfl) rfl (Nat.lt_of_lt_of_eq (by omega) hq6.symm) (Nat.lt_of_le_of_lt (Nat.le_of_eq hq6) (by omega)) (by omega) d_Col_fillMoves_28 (fun H locs V => ?_)
        refine nw_iinc X (lv' := [(4, _), (0, _), (1, _), (2, _), (3, _)]) (k := 4) 1 d_Col_fillMoves_29 hl rfl (by decide) (by decide) rfl (fun ls hl => ?_)
        refine nw_goto X (tgt := 17) d_Col_fillMoves_32 (by decide) ?_
        exact IH17 (x + 1) _ _ _ _ (by omega) hc (fun u hu => (hw_up_k _ _ _ hu).trans (hfr u hu)) (fm_put hv (by rw [Nat.div_eq_of_lt hc, Nat.mod_eq_of_lt hc]; rfl)) V (lv_sub hl [1, 2, 3, 4, 0] rfl)
  exact LP17 (σ (3, 0) i + 1) 0 _ _ _ _ (by omega) (Nat.zero_le _) (fun _ _ => rfl) (fun y hy => absurd hy (Nat.not_lt_zero _)) V (lv_sub hl [3, 4, 2, 1, 0] rfl)
set_option maxHeartbeats 4000000 in
set_option maxRecDepth 20000 in
theorem cm_Col_fillCarries (l : Launch) (z : zz_Z) (σ : hw_M) (hz : ∀ k, zz_k (zz_n z) k → zz_O z k) (i : Nat) (hi : i < zz_n z) (hL : lo_ok z σ (i + 1)) (hc6 : ∀ j, i < j → j < zz_n z → σ (6, i) j < σ (3, 0) i) (hm : ∀ y, y < σ (2, 0) i * σ (3, 0) i → σ (8, i) y = ex_it (mo_t z σ i) (y / σ (3, 0) i) (y % σ (3, 0) i)) (hp : σ (4, 0) i < σ (3, 0) i) : Met l y_Col_fillCarries (hw_c y_Col_fillCarries b_Col_fillCarries 4 none) (hw_r 1) (va_Pc [.ref (zz_A z (1, 0)), .int (nI i)] (zz_B z σ)) (va_Qv (fun σ' => (∀ u : hw_P, u ≠ (10, i) → σ' u = σ u) ∧ ∀ y, y < σ (2, 0) i * σ (3, 0) i → σ' (10, i) y = mo_p z σ (zz_n z - (i + 1)) (σ (4, 0) i) (σ (8, i) y)) (zz_B z) (zz_F z)) 0 0 (zz_F z) := by
  refine hw_metv (post := (fun σ' => (∀ u : hw_P, u ≠ (10, i) → σ' u = σ u) ∧ ∀ y, y < σ (2, 0) i * σ (3, 0) i → σ' (10, i) y = mo_p z σ (zz_n z - (i + 1)) (σ (4, 0) i) (σ (8, i) y))) (by decide) (Nat.le_of_ble_eq_true rfl) ?_
  intro p e s m args below meth c ls Q X hret V hl
  have hl : lv_has ls 4 [(0, .ref (zz_A z (1, 0))), (1, .int (nI i))] := hl
  have hB := V.1.2.2
  obtain ⟨⟨hn7, hN, hn, hNe, hw, hsz, hln⟩, hk, ht⟩ := id hL
  have hq := st_lv hL.1 hi
  have ez := st_sz hL.1 hi
  have hq6 := hq.2.2.2.2.2.1
  refine nw_aload_n X d_Col_fillCarries_0 rfl (lv_at hl 0 rfl) ?_
  refine gf_Col_32 X V (hz (1, 0) (by first | exact rfl | assumption | exact (by omega : _ < _))) d_Col_fillCarries_1 ?_
  refine nw_iload_n X d_Col_fillCarries_4 rfl (lv_at hl 1 rfl) ?_
  refine hw_aald X V (hz (9, 0) (by first | exact rfl | assumption | exact (by omega : _ < _))) 2 rfl rfl rfl hi (by omega) rfl d_Col_fillCarries_5 ?_
  refine nw_astore_n X (lv' := [(2, _), (0, _), (1, _)]) d_Col_fillCarries_6 rfl hl (by decide) rfl (fun ls hl => ?_)
  refine nw_iconst X 0 d_Col_fillCarries_7 (by decide) ?_
  refine nw_istore_n X (lv' := [(3, _), (2, _), (0, _), (1, _)]) d_Col_fillCarries_8 rfl hl (by decide) rfl (fun ls hl => ?_)
  have LP9 : ∀ (d k : Nat) (σ1 : hw_M) (H : Heap) (locs : List Loc) (ls : Array Slot), σ (2, 0) i * σ (3, 0) i - k < d → (k ≤ σ (2, 0) i * σ (3, 0) i) → (∀ u : hw_P, u ≠ (10, i) → σ1 u = σ u) → (∀ y, y < k → σ1 (10, i) y = mo_p z σ (zz_n z - (i + 1)) (σ (4, 0) i) (σ (8, i) y)) → zz_V z σ1 s.heap H locs →  lv_has ls 4 [(0, .ref (zz_A z (1, 0))), (1, .int (nI i)), (2, .ref (zz_A z (10, i))), (3, .int (nI k))] →  W p l e (hw_r 1) s m args below meth c H locs 0 0 Q (F0 m 9 ls []) := by
    intro d
    induction d with
    | zero => intro k σ1 H locs ls hd; exact absurd hd (Nat.not_lt_zero _)
    | succ d IH9 =>
      intro k σ1 H locs ls hd hkl hfr hv V hl
      have hB := V.1.2.2
      have hK := lo_keep hL (lo_fr10 (f := i + 1) hfr (Nat.lt_succ_self i))
      refine nw_iload_n X d_Col_fillCarries_9 rfl (lv_at hl 3 rfl) ?_
      refine nw_aload_n X d_Col_fillCarries_10 rfl (lv_at hl 2 rfl) ?_
      refine hw_alen X V (hz (10, i) (by first | exact rfl | assumption | exact (by omega : _ < _))) 0 rfl rfl d_Col_fillCarries_11 ?_
      rw [show ((zz_l z (10, i).2 : Nat)) = σ (2, 0) i * σ (3, 0) i from hq6]
      refine nw_icmp_ge X (tgt := 45) d_Col_fillCarries_12 (by decide) (by omega) (by omega) (fun hc => ?_) (fun hc => ?_)
      · skip
        exact hret _ _ _ _ _ d_Col_fillCarries_45 V ⟨hfr, fun y hy => hv y (by omega)⟩
      · skip
        have hml : σ (8, i) k < σ (3, 0) i := by rw [hm k hc]; exact tb_it_l hw hi hk hc6 (Nat.mod_lt _ hq.1) _
        refine nw_aload_n X d_Col_fillCarries_15 rfl (lv_at hl 2 rfl) ?_
        refine nw_iload_n X d_Col_fillCarries_16 rfl (lv_at hl 3 rfl) ?_
        refine nw_aload_n X d_Col_fillCarries_17 rfl (lv_at hl 0 rfl) ?_
        refine nw_iload_n X d_Col_fillCarries_18 rfl (lv_at hl 1 rfl) ?_
        refine nw_iconst X 1 d_Col_fillCarries_19 (by decide) ?_
        refine nw_iadd X d_Col_fillCarries_20 ?_
        refine nw_aload_n X d_Col_fillCarries_21 rfl (lv_at hl 0 rfl) ?_
        refine gf_Col_20 X V (hz (1, 0) (by first | exact rfl | assumption | exact (by omega : _ < _))) d_Col_fillCarries_22 ?_
        refine nw_iload_n X d_Col_fillCarries_25 rfl (lv_at hl 1 rfl) ?_
        refine hw_iald X V (hz (4, 0) (by first | exact rfl | assumption | exact (by omega : _ < _))) 0 rfl rfl hi (by omega) d_Col_fillCarries_26 ?_
        rw [hfr (4, 0) (hw_ne (by decide))]
        refine nw_aload_n X d_Col_fillCarries_27 rfl (lv_at hl 0 rfl) ?_
        refine gf_Col_29 X V (hz (1, 0) (by first | exact rfl | assumption | exact (by omega : _ < _))) d_Col_fillCarries_28 ?_
        refine nw_iload_n X d_Col_fillCarries_31 rfl (lv_at hl 1 rfl) ?_
        refine hw_aald X V (hz (7, 0) (by first | exact rfl | assumption | exact (by omega : _ < _))) 2 rfl rfl rfl hi (by omega) rfl d_Col_fillCarries_32 ?_
        refine nw_iload_n X d_Col_fillCarries_33 rfl (lv_at hl 3 rfl) ?_
        refine hw_iald X V (hz (8, i) (by first | exact rfl | assumption | exact (by omega : _ < _))) 0 rfl rfl (Nat.lt_of_lt_of_eq hc hq6.symm) (Nat.lt_of_le_of_lt (Nat.le_of_eq hq6) (by omega)) d_Col_fillCarries_34 ?_
        rw [hfr (8, i) (hw_ne (by decide))]
        refine hw_calli X V (hz (1, 0) (by first | exact rfl | assumption | exact (by omega : _ < _))) rfl rfl (cm_Col_multiplyFrom l z σ1 hz (i + 1) (σ (4, 0) i) (σ (8, i) k) hi hK.1 (by rw [hK.2.2.2, ez.2]; exact hp) (by rw [hK.2.2.2, ez.2]; exact hml)) cs_Col_58 (by decide) rfl hl.1 rfl (Nat.le_of_ble_eq_true rfl) (by decide) d_Col_fillCarries_35 (fun r σ' H locs V hr => ?_)
        obtain ⟨hσ, rfl⟩ := hr
        rw [hσ] at V
        clear hσ
        have hB := V.1.2.2
        rw [hK.2.1]
        refine hw_iast X V (hz (10, i) (by first | exact rfl | assumption | exact (by omega : _ < _))) 0 (fun _ => rfl) rfl (Nat.lt_of_lt_of_eq hc hq6.symm) (Nat.lt_of_le_of_lt (Nat.le_of_eq hq6) (by omega)) (by have h1 := (tw_gpi hw hi hk).lt hp hml; have h2 : mo_p z σ (zz_n z - (i + 1)) (σ (4, 0) i) (σ (8, i) k) < σ (3, 0) i := h1; omega) d_Col_fillCarries_38 (fun H locs V => ?_)
        refine nw_iinc X (lv' := [(3, _), (0, _), (1, _), (2, _)]) (k := 3) 1 d_Col_fillCarries_39 hl rfl (by decide) (by decide) rfl (fun ls hl => ?_)
        refine nw_goto X (tgt := 9) d_Col_fillCarries_42 (by decide) ?_
        exact IH9 (k + 1) _ _ _ _ (by omega) hc (fun u hu => (hw_up_k _ _ _ hu).trans (hfr u hu)) (fm_put hv rfl) V (lv_sub hl [1, 2, 3, 0] rfl)
  exact LP9 (σ (2, 0) i * σ (3, 0) i + 1) 0 _ _ _ _ (by omega) (Nat.zero_le _) (fun _ _ => rfl) (fun y hy => absurd hy (Nat.not_lt_zero _)) V (lv_sub hl [2, 3, 1, 0] rfl)
set_option maxHeartbeats 4000000 in
set_option maxRecDepth 20000 in
theorem cm_Col_moveKeepsProducts (l : Launch) (z : zz_Z) (σ : hw_M) (hz : ∀ k, zz_k (zz_n z) k → zz_O z k) (i : Nat) (hi : i < zz_n z) (hL : lo_ok z σ (i + 1)) (hc6 : ∀ j, i < j → j < zz_n z → σ (6, i) j < σ (3, 0) i) (hm : ∀ y, y < σ (2, 0) i * σ (3, 0) i → σ (8, i) y = ex_it (mo_t z σ i) (y / σ (3, 0) i) (y % σ (3, 0) i)) : Met l y_Col_moveKeepsProducts (hw_c y_Col_moveKeepsProducts b_Col_moveKeepsProducts 8 (some .boolean)) (hw_r 1) (va_Pc [.ref (zz_A z (1, 0)), .int (nI i)] (zz_B z σ)) (va_Qi (fun r σ' => ∃ b, b < 2 ∧ r = nI b ∧ (fun b σ' => σ' = σ ∧ (b = 1 ↔ ∀ x j, x < σ (3, 0) i → i < j → j < zz_n z → mo_t z σ i (mo_p z σ (zz_n z - (i + 1)) x (σ (3, 0) j)) = mo_p z σ (zz_n z - (i + 1)) (mo_t z σ i x) (σ (6, i) j))) b σ') (zz_B z) (zz_F z)) 0 0 (zz_F z) := by
  refine hw_metz (post := (fun b σ' => σ' = σ ∧ (b = 1 ↔ ∀ x j, x < σ (3, 0) i → i < j → j < zz_n z → mo_t z σ i (mo_p z σ (zz_n z - (i + 1)) x (σ (3, 0) j)) = mo_p z σ (zz_n z - (i + 1)) (mo_t z σ i x) (σ (6, i) j)))) (by decide) (Nat.le_of_ble_eq_true rfl) ?_
  intro p e s m args below meth c ls Q X hret V hl
  have hl : lv_has ls 8 [(0, .ref (zz_A z (1, 0))), (1, .int (nI i))] := hl
  have hB := V.1.2.2
  obtain ⟨⟨hn7, hN, hn, hNe, hw, hsz, hln⟩, hk, ht⟩ := id hL
  have hq := st_lv hL.1 hi
  have ez := st_sz hL.1 hi
  have hq6 := hq.2.2.2.2.2.1
  have g := tw_gpi hw hi hk
  have hm1 : ∀ y, y < σ (3, 0) i → σ (8, i) (σ (3, 0) i + y) = mo_t z σ i y := fun y hy => by rw [hm _ (by omega), fm_d1 hy, fm_m1 hy]; rfl
  have htl : ∀ y, mo_t z σ i y < σ (3, 0) i := tb_s_l hw hi hk hc6
  refine nw_aload_n X d_Col_moveKeepsProducts_0 rfl (lv_at hl 0 rfl) ?_
  refine gf_Col_17 X V (hz (1, 0) (by first | exact rfl | assumption | exact (by omega : _ < _))) d_Col_moveKeepsProducts_1 ?_
  refine nw_iload_n X d_Col_moveKeepsProducts_4 rfl (lv_at hl 1 rfl) ?_
  refine hw_iald X V (hz (3, 0) (by first | exact rfl | assumption | exact (by omega : _ < _))) 0 rfl rfl hi (by omega) d_Col_moveKeepsProducts_5 ?_
  refine nw_istore_n X (lv' := [(2, _), (0, _), (1, _)]) d_Col_moveKeepsProducts_6 rfl hl (by decide) rfl (fun ls hl => ?_)
  refine nw_aload_n X d_Col_moveKeepsProducts_7 rfl (lv_at hl 1 rfl) ?_
  refine gf_Col_29 X V (hz (1, 0) (by first | exact rfl | assumption | exact (by omega : _ < _))) d_Col_moveKeepsProducts_8 ?_
  refine nw_iload_n X d_Col_moveKeepsProducts_11 rfl (lv_at hl 2 rfl) ?_
  refine hw_aald X V (hz (7, 0) (by first | exact rfl | assumption | exact (by omega : _ < _))) 2 rfl rfl rfl hi (by omega) rfl d_Col_moveKeepsProducts_12 ?_
  refine nw_astore_n X (lv' := [(3, _), (2, _), (0, _), (1, _)]) d_Col_moveKeepsProducts_13 rfl hl (by decide) rfl (fun ls hl => ?_)
  refine nw_iconst X 0 d_Col_moveKeepsProducts_14 (by decide) ?_
  refine nw_istore X (lv' := [(4, _), (3, _), (2, _), (0, _), (1, _)]) d_Col_moveKeepsProducts_15 hl (by decide) rfl (fun ls hl => ?_)
  have LP17 : ∀ (d x : Nat) (H : Heap) (locs : List Loc) (ls : Array Slot), σ (3, 0) i - x < d → (x ≤ σ (3, 0) i) → (∀ y j, y < x → i < j → j < zz_n z → mo_t z σ i (mo_p z σ (zz_n z - (i + 1)) y (σ (3, 0) j)) = mo_p z σ (zz_n z - (i + 1)) (mo_t z σ i y) (σ (6, i) j)) → zz_V z σ s.heap H locs →  lv_has ls 8 [(0, .ref (zz_A z (1, 0))), (1, .int (nI i)), (2, .int (nI (σ (3, 0) i))), (3, .ref (zz_A z (8, i))), (4, .int (nI x))] →  W p l e (hw_r 1) s m args below meth c H locs 0 0 Q (F0 m 17 ls []) := by
    intro d
    induction d with
    | zero => intro x H locs ls hd; exact absurd hd (Nat.not_lt_zero _)
    | succ d IH17 =>
      intro x H locs ls hd hx hall V hl
      have hB := V.1.2.2
      refine nw_iload X d_Col_moveKeepsProducts_17 (lv_at hl 4 rfl) ?_
      refine nw_iload_n X d_Col_moveKeepsProducts_19 rfl (lv_at hl 2 rfl) ?_
      refine nw_icmp_ge X (tgt := 104) d_Col_moveKeepsProducts_20 (by decide) (by first | assumption | omega) (by first | assumption | omega) (fun hcx => ?_) (fun hcx => ?_)
      · skip
        refine nw_iconst X 1 d_Col_moveKeepsProducts_104 (by decide) ?_
        exact hret 1 _ _ _ _ _ d_Col_moveKeepsProducts_105 V (by decide) ⟨rfl, fun _ y j h1 h2 h3 => hall y j (by omega) h2 h3, fun _ => rfl⟩
      · skip
        refine nw_iload_n X d_Col_moveKeepsProducts_23 rfl (lv_at hl 1 rfl) ?_
        refine nw_iconst X 1 d_Col_moveKeepsProducts_24 (by decide) ?_
        refine nw_iadd X d_Col_moveKeepsProducts_25 ?_
        refine nw_istore X (lv' := [(5, _), (0, _), (1, _), (2, _), (3, _), (4, _)]) d_Col_moveKeepsProducts_26 hl (by decide) rfl (fun ls hl => ?_)
        have LP28 : ∀ (d j : Nat) (H : Heap) (locs : List Loc) (ls : Array Slot), zz_n z - j < d → (i < j) → (j ≤ zz_n z) → (∀ k, i < k → k < j → mo_t z σ i (mo_p z σ (zz_n z - (i + 1)) x (σ (3, 0) k)) = mo_p z σ (zz_n z - (i + 1)) (mo_t z σ i x) (σ (6, i) k)) → zz_V z σ s.heap H locs →  lv_has ls 8 [(0, .ref (zz_A z (1, 0))), (1, .int (nI i)), (2, .int (nI (σ (3, 0) i))), (3, .ref (zz_A z (8, i))), (4, .int (nI x)), (5, .int (nI j))] →  W p l e (hw_r 1) s m args below meth c H locs 0 0 Q (F0 m 28 ls []) := by
          intro d
          induction d with
          | zero => intro j H locs ls hd; exact absurd hd (Nat.not_lt_zero _)
          | succ d IH28 =>
            intro j H locs ls hd hij hjn hin V hl
            have hB := V.1.2.2
            refine nw_iload X d_Col_moveKeepsProducts_28 (lv_at hl 5 rfl) ?_
            refine nw_aload_n X d_Col_moveKeepsProducts_30 rfl (lv_at hl 0 rfl) ?_
            refine gf_Col_7 X V (hz (1, 0) (by first | exact rfl | assumption | exact (by omega : _ < _))) d_Col_moveKeepsProducts_31 ?_
            rw [hn]
            refine nw_icmp_ge X (tgt := 98) d_Col_moveKeepsProducts_34 (by decide) (by first | assumption | omega) (by first | assumption | omega) (fun hcj => ?_) (fun hcj => ?_)
            · skip
              refine nw_iinc X (lv' := [(4, _), (0, _), (1, _), (2, _), (3, _), (5, _)]) (k := 4) 1 d_Col_moveKeepsProducts_98 hl rfl (by decide) (by decide) rfl (fun ls hl => ?_)
              refine nw_goto X (tgt := 17) d_Col_moveKeepsProducts_101 (by decide) ?_
              exact IH17 (x + 1) _ _ _ (by omega) hcx (fun y j h1 h2 h3 => by by_cases e : y = x; rw [e]; exact hin j h2 (by omega); exact hall y j (by omega) h2 h3) V (lv_sub hl [1, 2, 3, 4, 0] rfl)
            · skip
              have hj := hcj
              have hwj : σ (3, 0) j < σ (3, 0) i := hw.lt hij hj
              have hcj6 := hc6 j hij hj
              have hlo := g.lt hcx hwj
              have hlo : mo_p z σ (zz_n z - (i + 1)) x (σ (3, 0) j) < σ (3, 0) i := hlo
              have hpa := g.lt (htl x) hcj6
              have hpa : mo_p z σ (zz_n z - (i + 1)) (mo_t z σ i x) (σ (6, i) j) < σ (3, 0) i := hpa
              refine nw_aload_n X d_Col_moveKeepsProducts_37 rfl (lv_at hl 0 rfl) ?_
              refine nw_iload_n X d_Col_moveKeepsProducts_38 rfl (lv_at hl 1 rfl) ?_
              refine nw_iconst X 1 d_Col_moveKeepsProducts_39 (by decide) ?_
              refine nw_iadd X d_Col_moveKeepsProducts_40 ?_
              refine nw_iload X d_Col_moveKeepsProducts_41 (lv_at hl 4 rfl) ?_
              refine nw_aload_n X d_Col_moveKeepsProducts_43 rfl (lv_at hl 0 rfl) ?_
              refine gf_Col_17 X V (hz (1, 0) (by first | exact rfl | assumption | exact (by omega : _ < _))) d_Col_moveKeepsProducts_44 ?_
              refine nw_iload X d_Col_moveKeepsProducts_47 (lv_at hl 5 rfl) ?_
              refine hw_iald X V (hz (3, 0) (by first | exact rfl | assumption | exact (by omega : _ < _))) 0 rfl rfl hj (by omega) d_Col_moveKeepsProducts_49 ?_
              refine hw_calli X V (hz (1, 0) (by first | exact rfl | assumption | exact (by omega : _ < _))) rfl rfl (cm_Col_multiplyFrom l z σ hz (i + 1) _ _ hi hL (by rw [ez.2]; exact hcx) (by rw [ez.2]; exact hwj)) cs_Col_58 (by decide) rfl hl.1 rfl (Nat.le_of_ble_eq_true rfl) (by decide) d_Col_moveKeepsProducts_50 (fun r σ' H locs V hr => ?_)
              obtain ⟨hσ, rfl⟩ := hr
              rw [hσ] at V
              clear hσ
              have hB := V.1.2.2
              refine nw_istore X (lv' := [(6, _), (0, _), (1, _), (2, _), (3, _), (4, _), (5, _)]) d_Col_moveKeepsProducts_53 hl (by decide) rfl (fun ls hl => ?_)
              refine nw_aload_n X d_Col_moveKeepsProducts_55 rfl (lv_at hl 1 rfl) ?_
              refine nw_iload_n X d_Col_moveKeepsProducts_56 rfl (lv_at hl 2 rfl) ?_
              refine nw_iconst X 1 d_Col_moveKeepsProducts_57 (by decide) ?_
              refine nw_iadd X d_Col_moveKeepsProducts_58 ?_
              refine nw_aload_n X d_Col_moveKeepsProducts_59 rfl (lv_at hl 4 rfl) ?_
              refine nw_iload_n X d_Col_moveKeepsProducts_60 rfl (lv_at hl 3 rfl) ?_
              refine nw_iload X d_Col_moveKeepsProducts_61 (lv_at hl 5 rfl) ?_
              refine nw_iadd X d_Col_moveKeepsProducts_63 ?_
              refine hw_iald X V (hz (8, i) (by first | exact rfl | assumption | exact (by omega : _ < _))) 0 rfl rfl (Nat.lt_of_lt_of_eq (by omega) hq6.symm) (Nat.lt_of_le_of_lt (Nat.le_of_eq hq6) (by omega)) d_Col_moveKeepsProducts_64 ?_
              rw [hm1 x hcx]
              refine nw_aload_n X d_Col_moveKeepsProducts_65 rfl (lv_at hl 1 rfl) ?_
              refine gf_Col_25 X V (hz (1, 0) (by first | exact rfl | assumption | exact (by omega : _ < _))) d_Col_moveKeepsProducts_66 ?_
              refine nw_iload_n X d_Col_moveKeepsProducts_69 rfl (lv_at hl 2 rfl) ?_
              refine hw_aald X V (hz (5, 0) (by first | exact rfl | assumption | exact (by omega : _ < _))) 2 rfl rfl rfl hi (by omega) rfl d_Col_moveKeepsProducts_70 ?_
              refine nw_iload X d_Col_moveKeepsProducts_71 (lv_at hl 6 rfl) ?_
              refine hw_iald X V (hz (6, i) (by first | exact rfl | assumption | exact (by omega : _ < _))) 0 rfl rfl hj (by omega) d_Col_moveKeepsProducts_73 ?_
              refine hw_calli X V (hz (1, 0) (by first | exact rfl | assumption | exact (by omega : _ < _))) rfl rfl (cm_Col_multiplyFrom l z σ hz (i + 1) _ _ hi hL (by rw [ez.2]; exact htl x) (by rw [ez.2]; exact hcj6)) cs_Col_58 (by decide) rfl hl.1 rfl (Nat.le_of_ble_eq_true rfl) (by decide) d_Col_moveKeepsProducts_74 (fun r σ' H locs V hr => ?_)
              obtain ⟨hσ, rfl⟩ := hr
              rw [hσ] at V
              clear hσ
              have hB := V.1.2.2
              refine nw_istore X (lv' := [(7, _), (6, _), (0, _), (1, _), (2, _), (3, _), (4, _), (5, _)]) d_Col_moveKeepsProducts_77 hl (by decide) rfl (fun ls hl => ?_)
              refine nw_aload_n X d_Col_moveKeepsProducts_79 rfl (lv_at hl 5 rfl) ?_
              refine nw_iload_n X d_Col_moveKeepsProducts_80 rfl (lv_at hl 4 rfl) ?_
              refine nw_iload X d_Col_moveKeepsProducts_81 (lv_at hl 1 rfl) ?_
              refine nw_iadd X d_Col_moveKeepsProducts_83 ?_
              refine hw_iald X V (hz (8, i) (by first | exact rfl | assumption | exact (by omega : _ < _))) 0 rfl rfl (Nat.lt_of_lt_of_eq (by omega) hq6.symm) (Nat.lt_of_le_of_lt (Nat.le_of_eq hq6) (by omega)) d_Col_moveKeepsProducts_84 ?_
              rw [hm1 _ hlo]
              refine nw_iload X d_Col_moveKeepsProducts_85 (lv_at hl 0 rfl) ?_
              refine nw_icmp_eq X (tgt := 92) d_Col_moveKeepsProducts_87 (by decide) (by have := htl (mo_p z σ (zz_n z - (i + 1)) x (σ (3, 0) j)); omega) (by omega) (fun hc3 => ?_) (fun hc3 => ?_)
              · skip
                refine nw_iinc X (lv' := [(5, _), (7, _), (6, _), (0, _), (1, _), (2, _), (3, _), (4, _)]) (k := 7) 1 d_Col_moveKeepsProducts_92 hl rfl (by decide) (by decide) rfl (fun ls hl => ?_)
                refine nw_goto X (tgt := 28) d_Col_moveKeepsProducts_95 (by decide) ?_
                exact IH28 (j + 1) _ _ _ (by omega) (by omega) hj (fun k h1 h2 => by by_cases e : k = j; rw [e]; exact hc3; exact hin k h1 (by omega)) V (lv_sub hl [3, 4, 5, 6, 7, 0] rfl)
              · skip
                refine nw_iconst X 0 d_Col_moveKeepsProducts_90 (by decide) ?_
                exact hret 0 _ _ _ _ _ d_Col_moveKeepsProducts_91 V (by decide) ⟨rfl, fun q => absurd q (by decide), fun q => absurd (q x j hcx hij hj) hc3⟩
        exact LP28 (zz_n z + 1) (i + 1) _ _ _ (by omega) (by omega) hi (fun k h1 h2 => by omega) V (lv_sub hl [1, 2, 3, 4, 5, 0] rfl)
  exact LP17 (σ (3, 0) i + 1) 0 _ _ _ (by omega) (Nat.zero_le _) (fun y j hy => absurd hy (Nat.not_lt_zero _)) V (lv_sub hl [3, 4, 2, 1, 0] rfl)
set_option maxHeartbeats 4000000 in
set_option maxRecDepth 20000 in
theorem cm_Col_moveKeepsPower (l : Launch) (z : zz_Z) (σ : hw_M) (hz : ∀ k, zz_k (zz_n z) k → zz_O z k) (i : Nat) (hi : i < zz_n z) (hL : lo_ok z σ (i + 1)) (hc6 : ∀ j, i < j → j < zz_n z → σ (6, i) j < σ (3, 0) i) (hm : ∀ y, y < σ (2, 0) i * σ (3, 0) i → σ (8, i) y = ex_it (mo_t z σ i) (y / σ (3, 0) i) (y % σ (3, 0) i)) (hp : σ (4, 0) i < σ (3, 0) i) : Met l y_Col_moveKeepsPower (hw_c y_Col_moveKeepsPower b_Col_moveKeepsPower 2 (some .boolean)) (hw_r 0) (va_Pc [.ref (zz_A z (1, 0)), .int (nI i)] (zz_B z σ)) (va_Qi (fun r σ' => ∃ b, b < 2 ∧ r = nI b ∧ (fun b σ' => σ' = σ ∧ (b = 1 ↔ mo_t z σ i (σ (4, 0) i) = σ (4, 0) i)) b σ') (zz_B z) (zz_F z)) 0 0 (zz_F z) := by
  refine hw_metz (post := (fun b σ' => σ' = σ ∧ (b = 1 ↔ mo_t z σ i (σ (4, 0) i) = σ (4, 0) i))) (by decide) (Nat.le_of_ble_eq_true rfl) ?_
  intro p e s m args below meth c ls Q X hret V hl
  have hl : lv_has ls 2 [(0, .ref (zz_A z (1, 0))), (1, .int (nI i))] := hl
  have hB := V.1.2.2
  obtain ⟨⟨hn7, hN, hn, hNe, hw, hsz, hln⟩, hk, ht⟩ := id hL
  have hq := st_lv hL.1 hi
  have ez := st_sz hL.1 hi
  have hq6 := hq.2.2.2.2.2.1
  have g := tw_gpi hw hi hk
  have hm1 : ∀ y, y < σ (3, 0) i → σ (8, i) (σ (3, 0) i + y) = mo_t z σ i y := fun y hy => by rw [hm _ (by omega), fm_d1 hy, fm_m1 hy]; rfl
  have htl : ∀ y, mo_t z σ i y < σ (3, 0) i := tb_s_l hw hi hk hc6
  refine nw_aload_n X d_Col_moveKeepsPower_0 rfl (lv_at hl 0 rfl) ?_
  refine gf_Col_29 X V (hz (1, 0) (by first | exact rfl | assumption | exact (by omega : _ < _))) d_Col_moveKeepsPower_1 ?_
  refine nw_iload_n X d_Col_moveKeepsPower_4 rfl (lv_at hl 1 rfl) ?_
  refine hw_aald X V (hz (7, 0) (by first | exact rfl | assumption | exact (by omega : _ < _))) 2 rfl rfl rfl hi (by omega) rfl d_Col_moveKeepsPower_5 ?_
  refine nw_aload_n X d_Col_moveKeepsPower_6 rfl (lv_at hl 0 rfl) ?_
  refine gf_Col_17 X V (hz (1, 0) (by first | exact rfl | assumption | exact (by omega : _ < _))) d_Col_moveKeepsPower_7 ?_
  refine nw_iload_n X d_Col_moveKeepsPower_10 rfl (lv_at hl 1 rfl) ?_
  refine hw_iald X V (hz (3, 0) (by first | exact rfl | assumption | exact (by omega : _ < _))) 0 rfl rfl hi (by omega) d_Col_moveKeepsPower_11 ?_
  refine nw_aload_n X d_Col_moveKeepsPower_12 rfl (lv_at hl 0 rfl) ?_
  refine gf_Col_20 X V (hz (1, 0) (by first | exact rfl | assumption | exact (by omega : _ < _))) d_Col_moveKeepsPower_13 ?_
  refine nw_iload_n X d_Col_moveKeepsPower_16 rfl (lv_at hl 1 rfl) ?_
  refine hw_iald X V (hz (4, 0) (by first | exact rfl | assumption | exact (by omega : _ < _))) 0 rfl rfl hi (by omega) d_Col_moveKeepsPower_17 ?_
  refine nw_iadd X d_Col_moveKeepsPower_18 ?_
  refine hw_iald X V (hz (8, i) (by first | exact rfl | assumption | exact (by omega : _ < _))) 0 rfl rfl (Nat.lt_of_lt_of_eq (by omega) hq6.symm) (Nat.lt_of_le_of_lt (Nat.le_of_eq hq6) (by omega)) d_Col_moveKeepsPower_19 ?_
  rw [hm1 _ hp]
  refine nw_aload_n X d_Col_moveKeepsPower_20 rfl (lv_at hl 0 rfl) ?_
  refine gf_Col_20 X V (hz (1, 0) (by first | exact rfl | assumption | exact (by omega : _ < _))) d_Col_moveKeepsPower_21 ?_
  refine nw_iload_n X d_Col_moveKeepsPower_24 rfl (lv_at hl 1 rfl) ?_
  refine hw_iald X V (hz (4, 0) (by first | exact rfl | assumption | exact (by omega : _ < _))) 0 rfl rfl hi (by omega) d_Col_moveKeepsPower_25 ?_
  refine nw_icmp_ne X (tgt := 33) d_Col_moveKeepsPower_26 (by decide) (by have := htl (σ (4, 0) i); omega) (hB _ _) (fun hc => ?_) (fun hc => ?_)
  · skip
    refine nw_iconst X 0 d_Col_moveKeepsPower_33 (by decide) ?_
    exact hret 0 _ _ _ _ _ d_Col_moveKeepsPower_34 V (by decide) ⟨rfl, fun q => absurd q (by decide), fun q => absurd q hc⟩
  · skip
    refine nw_iconst X 1 d_Col_moveKeepsPower_29 (by decide) ?_
    refine nw_goto X (tgt := 34) d_Col_moveKeepsPower_30 (by decide) ?_
    exact hret 1 _ _ _ _ _ d_Col_moveKeepsPower_34 V (by decide) ⟨rfl, fun _ => hc, fun _ => rfl⟩
set_option maxHeartbeats 4000000 in
set_option maxRecDepth 20000 in
theorem cm_Col_fullTurnIsPower (l : Launch) (z : zz_Z) (σ : hw_M) (hz : ∀ k, zz_k (zz_n z) k → zz_O z k) (i : Nat) (hi : i < zz_n z) (hL : lo_ok z σ (i + 1)) (hc6 : ∀ j, i < j → j < zz_n z → σ (6, i) j < σ (3, 0) i) (hm : ∀ y, y < σ (2, 0) i * σ (3, 0) i → σ (8, i) y = ex_it (mo_t z σ i) (y / σ (3, 0) i) (y % σ (3, 0) i)) (hp : σ (4, 0) i < σ (3, 0) i) : Met l y_Col_fullTurnIsPower (hw_c y_Col_fullTurnIsPower b_Col_fullTurnIsPower 7 (some .boolean)) (hw_r 1) (va_Pc [.ref (zz_A z (1, 0)), .int (nI i)] (zz_B z σ)) (va_Qi (fun r σ' => ∃ b, b < 2 ∧ r = nI b ∧ (fun b σ' => σ' = σ ∧ (b = 1 ↔ ∀ x, x < σ (3, 0) i → mo_p z σ (zz_n z - (i + 1)) (σ (4, 0) i) (ex_it (mo_t z σ i) (σ (2, 0) i) x) = mo_p z σ (zz_n z - (i + 1)) x (σ (4, 0) i))) b σ') (zz_B z) (zz_F z)) 0 0 (zz_F z) := by
  refine hw_metz (post := (fun b σ' => σ' = σ ∧ (b = 1 ↔ ∀ x, x < σ (3, 0) i → mo_p z σ (zz_n z - (i + 1)) (σ (4, 0) i) (ex_it (mo_t z σ i) (σ (2, 0) i) x) = mo_p z σ (zz_n z - (i + 1)) x (σ (4, 0) i)))) (by decide) (Nat.le_of_ble_eq_true rfl) ?_
  intro p e s m args below meth c ls Q X hret V hl
  have hl : lv_has ls 7 [(0, .ref (zz_A z (1, 0))), (1, .int (nI i))] := hl
  have hB := V.1.2.2
  obtain ⟨⟨hn7, hN, hn, hNe, hw, hsz, hln⟩, hk, ht⟩ := id hL
  have hq := st_lv hL.1 hi
  have ez := st_sz hL.1 hi
  have hq6 := hq.2.2.2.2.2.1
  have g := tw_gpi hw hi hk
  have hm1 : ∀ y, y < σ (3, 0) i → σ (8, i) (σ (3, 0) i + y) = mo_t z σ i y := fun y hy => by rw [hm _ (by omega), fm_d1 hy, fm_m1 hy]; rfl
  have htl : ∀ y, mo_t z σ i y < σ (3, 0) i := tb_s_l hw hi hk hc6
  refine nw_aload_n X d_Col_fullTurnIsPower_0 rfl (lv_at hl 0 rfl) ?_
  refine gf_Col_17 X V (hz (1, 0) (by first | exact rfl | assumption | exact (by omega : _ < _))) d_Col_fullTurnIsPower_1 ?_
  refine nw_iload_n X d_Col_fullTurnIsPower_4 rfl (lv_at hl 1 rfl) ?_
  refine hw_iald X V (hz (3, 0) (by first | exact rfl | assumption | exact (by omega : _ < _))) 0 rfl rfl hi (by omega) d_Col_fullTurnIsPower_5 ?_
  refine nw_istore_n X (lv' := [(2, _), (0, _), (1, _)]) d_Col_fullTurnIsPower_6 rfl hl (by decide) rfl (fun ls hl => ?_)
  refine nw_aload_n X d_Col_fullTurnIsPower_7 rfl (lv_at hl 1 rfl) ?_
  refine gf_Col_29 X V (hz (1, 0) (by first | exact rfl | assumption | exact (by omega : _ < _))) d_Col_fullTurnIsPower_8 ?_
  refine nw_iload_n X d_Col_fullTurnIsPower_11 rfl (lv_at hl 2 rfl) ?_
  refine hw_aald X V (hz (7, 0) (by first | exact rfl | assumption | exact (by omega : _ < _))) 2 rfl rfl rfl hi (by omega) rfl d_Col_fullTurnIsPower_12 ?_
  refine nw_astore_n X (lv' := [(3, _), (2, _), (0, _), (1, _)]) d_Col_fullTurnIsPower_13 rfl hl (by decide) rfl (fun ls hl => ?_)
  refine nw_aload_n X d_Col_fullTurnIsPower_14 rfl (lv_at hl 2 rfl) ?_
  refine gf_Col_13 X V (hz (1, 0) (by first | exact rfl | assumption | exact (by omega : _ < _))) d_Col_fullTurnIsPower_15 ?_
  refine nw_iload_n X d_Col_fullTurnIsPower_18 rfl (lv_at hl 3 rfl) ?_
  refine hw_iald X V (hz (2, 0) (by first | exact rfl | assumption | exact (by omega : _ < _))) 0 rfl rfl hi (by omega) d_Col_fullTurnIsPower_19 ?_
  refine nw_iconst X 1 d_Col_fullTurnIsPower_20 (by decide) ?_
  refine nw_isub X (by omega) d_Col_fullTurnIsPower_21 ?_
  refine nw_iload_n X d_Col_fullTurnIsPower_22 rfl (lv_at hl 1 rfl) ?_
  refine nw_imul X d_Col_fullTurnIsPower_23 ?_
  refine nw_istore X (lv' := [(4, _), (3, _), (2, _), (0, _), (1, _)]) d_Col_fullTurnIsPower_24 hl (by decide) rfl (fun ls hl => ?_)
  refine nw_iconst X 0 d_Col_fullTurnIsPower_26 (by decide) ?_
  refine nw_istore X (lv' := [(5, _), (4, _), (3, _), (2, _), (0, _), (1, _)]) d_Col_fullTurnIsPower_27 hl (by decide) rfl (fun ls hl => ?_)
  have LP29 : ∀ (d x : Nat) (H : Heap) (locs : List Loc) (ls : Array Slot), σ (3, 0) i - x < d → (x ≤ σ (3, 0) i) → (∀ y, y < x → mo_p z σ (zz_n z - (i + 1)) (σ (4, 0) i) (ex_it (mo_t z σ i) (σ (2, 0) i) y) = mo_p z σ (zz_n z - (i + 1)) y (σ (4, 0) i)) → zz_V z σ s.heap H locs →  lv_has ls 7 [(0, .ref (zz_A z (1, 0))), (1, .int (nI i)), (2, .int (nI (σ (3, 0) i))), (3, .ref (zz_A z (8, i))), (4, .int (nI ((σ (2, 0) i - 1) * σ (3, 0) i))), (5, .int (nI x))] →  W p l e (hw_r 1) s m args below meth c H locs 0 0 Q (F0 m 29 ls []) := by
    intro d
    induction d with
    | zero => intro x H locs ls hd; exact absurd hd (Nat.not_lt_zero _)
    | succ d IH29 =>
      intro x H locs ls hd hx hall V hl
      have hB := V.1.2.2
      refine nw_iload X d_Col_fullTurnIsPower_29 (lv_at hl 5 rfl) ?_
      refine nw_iload_n X d_Col_fullTurnIsPower_31 rfl (lv_at hl 2 rfl) ?_
      refine nw_icmp_ge X (tgt := 89) d_Col_fullTurnIsPower_32 (by decide) (by first | assumption | omega) (by first | assumption | omega) (fun hcx => ?_) (fun hcx => ?_)
      · skip
        refine nw_iconst X 1 d_Col_fullTurnIsPower_89 (by decide) ?_
        exact hret 1 _ _ _ _ _ d_Col_fullTurnIsPower_90 V (by decide) ⟨rfl, fun _ y h1 => hall y (by omega), fun _ => rfl⟩
      · skip
        have hlr : (σ (2, 0) i - 1) * σ (3, 0) i + x < σ (2, 0) i * σ (3, 0) i := ex_lt (by omega) hcx
        have e0 : σ (8, i) ((σ (2, 0) i - 1) * σ (3, 0) i + x) = ex_it (mo_t z σ i) (σ (2, 0) i - 1) x := by rw [hm _ hlr, (ex_d hcx).1, (ex_d hcx).2]
        have e1 : ex_it (mo_t z σ i) (σ (2, 0) i - 1) x < σ (3, 0) i := tb_it_l hw hi hk hc6 hcx _
        have e2 : mo_t z σ i (ex_it (mo_t z σ i) (σ (2, 0) i - 1) x) = ex_it (mo_t z σ i) (σ (2, 0) i) x := congrArg (fun k => ex_it (mo_t z σ i) k x) (show σ (2, 0) i - 1 + 1 = σ (2, 0) i by omega)
        have e3 : ex_it (mo_t z σ i) (σ (2, 0) i) x < σ (3, 0) i := by rw [← e2]; exact htl _
        have u1 := g.lt hp e3
        have u1 : mo_p z σ (zz_n z - (i + 1)) (σ (4, 0) i) (ex_it (mo_t z σ i) (σ (2, 0) i) x) < σ (3, 0) i := u1
        have u2 := g.lt hcx hp
        have u2 : mo_p z σ (zz_n z - (i + 1)) x (σ (4, 0) i) < σ (3, 0) i := u2
        refine nw_aload_n X d_Col_fullTurnIsPower_35 rfl (lv_at hl 3 rfl) ?_
        refine nw_iload_n X d_Col_fullTurnIsPower_36 rfl (lv_at hl 2 rfl) ?_
        refine nw_aload_n X d_Col_fullTurnIsPower_37 rfl (lv_at hl 3 rfl) ?_
        refine nw_iload X d_Col_fullTurnIsPower_38 (lv_at hl 4 rfl) ?_
        refine nw_iload X d_Col_fullTurnIsPower_40 (lv_at hl 5 rfl) ?_
        refine nw_iadd X d_Col_fullTurnIsPower_42 ?_
        refine hw_iald X V (hz (8, i) (by first | exact rfl | assumption | exact (by omega : _ < _))) 0 rfl rfl (Nat.lt_of_lt_of_eq hlr hq6.symm) (Nat.lt_of_le_of_lt (Nat.le_of_eq hq6) (by omega)) d_Col_fullTurnIsPower_43 ?_
        rw [e0]
        refine nw_iadd X d_Col_fullTurnIsPower_44 ?_
        refine hw_iald X V (hz (8, i) (by first | exact rfl | assumption | exact (by omega : _ < _))) 0 rfl rfl (Nat.lt_of_lt_of_eq (by omega) hq6.symm) (Nat.lt_of_le_of_lt (Nat.le_of_eq hq6) (by omega)) d_Col_fullTurnIsPower_45 ?_
        rw [hm1 _ e1, e2]
        refine nw_istore X (lv' := [(6, _), (0, _), (1, _), (2, _), (3, _), (4, _), (5, _)]) d_Col_fullTurnIsPower_46 hl (by decide) rfl (fun ls hl => ?_)
        refine nw_aload_n X d_Col_fullTurnIsPower_48 rfl (lv_at hl 1 rfl) ?_
        refine nw_iload_n X d_Col_fullTurnIsPower_49 rfl (lv_at hl 2 rfl) ?_
        refine nw_iconst X 1 d_Col_fullTurnIsPower_50 (by decide) ?_
        refine nw_iadd X d_Col_fullTurnIsPower_51 ?_
        refine nw_aload_n X d_Col_fullTurnIsPower_52 rfl (lv_at hl 1 rfl) ?_
        refine gf_Col_20 X V (hz (1, 0) (by first | exact rfl | assumption | exact (by omega : _ < _))) d_Col_fullTurnIsPower_53 ?_
        refine nw_iload_n X d_Col_fullTurnIsPower_56 rfl (lv_at hl 2 rfl) ?_
        refine hw_iald X V (hz (4, 0) (by first | exact rfl | assumption | exact (by omega : _ < _))) 0 rfl rfl hi (by omega) d_Col_fullTurnIsPower_57 ?_
        refine nw_iload X d_Col_fullTurnIsPower_58 (lv_at hl 0 rfl) ?_
        refine hw_calli X V (hz (1, 0) (by first | exact rfl | assumption | exact (by omega : _ < _))) rfl rfl (cm_Col_multiplyFrom l z σ hz (i + 1) _ _ hi hL (by rw [ez.2]; exact hp) (by rw [ez.2]; exact e3)) cs_Col_58 (by decide) rfl hl.1 rfl (Nat.le_of_ble_eq_true rfl) (by decide) d_Col_fullTurnIsPower_60 (fun r σ' H locs V hr => ?_)
        obtain ⟨hσ, rfl⟩ := hr
        rw [hσ] at V
        clear hσ
        have hB := V.1.2.2
        refine nw_aload_n X d_Col_fullTurnIsPower_63 rfl (lv_at hl 1 rfl) ?_
        refine nw_iload_n X d_Col_fullTurnIsPower_64 rfl (lv_at hl 2 rfl) ?_
        refine nw_iconst X 1 d_Col_fullTurnIsPower_65 (by decide) ?_
        refine nw_iadd X d_Col_fullTurnIsPower_66 ?_
        refine nw_iload X d_Col_fullTurnIsPower_67 (lv_at hl 6 rfl) ?_
        refine nw_aload_n X d_Col_fullTurnIsPower_69 rfl (lv_at hl 1 rfl) ?_
        refine gf_Col_20 X V (hz (1, 0) (by first | exact rfl | assumption | exact (by omega : _ < _))) d_Col_fullTurnIsPower_70 ?_
        refine nw_iload_n X d_Col_fullTurnIsPower_73 rfl (lv_at hl 2 rfl) ?_
        refine hw_iald X V (hz (4, 0) (by first | exact rfl | assumption | exact (by omega : _ < _))) 0 rfl rfl hi (by omega) d_Col_fullTurnIsPower_74 ?_
        refine hw_calli X V (hz (1, 0) (by first | exact rfl | assumption | exact (by omega : _ < _))) rfl rfl (cm_Col_multiplyFrom l z σ hz (i + 1) _ _ hi hL (by rw [ez.2]; exact hcx) (by rw [ez.2]; exact hp)) cs_Col_58 (by decide) rfl hl.1 rfl (Nat.le_of_ble_eq_true rfl) (by decide) d_Col_fullTurnIsPower_75 (fun r σ' H locs V hr => ?_)
        obtain ⟨hσ, rfl⟩ := hr
        rw [hσ] at V
        clear hσ
        have hB := V.1.2.2
        refine nw_icmp_eq X (tgt := 83) d_Col_fullTurnIsPower_78 (by decide) (by omega) (by omega) (fun hc3 => ?_) (fun hc3 => ?_)
        · skip
          refine nw_iinc X (lv' := [(5, _), (6, _), (0, _), (1, _), (2, _), (3, _), (4, _)]) (k := 6) 1 d_Col_fullTurnIsPower_83 hl rfl (by decide) (by decide) rfl (fun ls hl => ?_)
          refine nw_goto X (tgt := 29) d_Col_fullTurnIsPower_86 (by decide) ?_
          exact IH29 (x + 1) _ _ _ (by omega) hcx (fun y hy => by by_cases e : y = x; rw [e]; exact hc3; exact hall y (by omega)) V (lv_sub hl [2, 3, 4, 5, 6, 0] rfl)
        · skip
          refine nw_iconst X 0 d_Col_fullTurnIsPower_81 (by decide) ?_
          exact hret 0 _ _ _ _ _ d_Col_fullTurnIsPower_82 V (by decide) ⟨rfl, fun q => absurd q (by decide), fun q => absurd (q x hcx) hc3⟩
  exact LP29 (σ (3, 0) i + 1) 0 _ _ _ (by omega) (Nat.zero_le _) (fun y hy => absurd hy (Nat.not_lt_zero _)) V (lv_sub hl [4, 5, 3, 2, 1, 0] rfl)
