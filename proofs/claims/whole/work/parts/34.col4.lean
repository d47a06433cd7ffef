/-! The Collector: building. By program (wip/whole/gen/col4.py). -/
set_option maxHeartbeats 4000000 in
set_option maxRecDepth 20000 in
theorem cm_Col_build (l : Launch) (z : zz_Z) (σ : hw_M) (hz : ∀ k, zz_k (zz_n z) k → zz_O z k) (hS : st_ok z σ) (hR : rl_ok z σ) : Met l y_Col_build (hw_c y_Col_build b_Col_build 2 (some .boolean)) (hw_r 3) (va_Pc [.ref (zz_A z (1, 0))] (zz_B z σ)) (va_Qi (fun r σ' => ∃ b, b < 2 ∧ r = nI b ∧ (fun b σ' => (∀ u : hw_P, u.1 ≠ 8 → u.1 ≠ 10 → σ' u = σ u) ∧ (b = 1 ↔ mo_k z σ (zz_n z)) ∧ (b = 1 → lo_ok z σ' 0)) b σ') (zz_B z) (zz_F z)) 0 0 (zz_F z) := by
  refine hw_metz (post := (fun b σ' => (∀ u : hw_P, u.1 ≠ 8 → u.1 ≠ 10 → σ' u = σ u) ∧ (b = 1 ↔ mo_k z σ (zz_n z)) ∧ (b = 1 → lo_ok z σ' 0))) (by decide) (Nat.le_of_ble_eq_true rfl) ?_
  intro p e s m args below meth c ls Q X hret V hl
  have hl : lv_has ls 2 [(0, .ref (zz_A z (1, 0)))] := hl
  have hB := V.1.2.2
  obtain ⟨hn7, hN, hn, hNe, hw, hsz, hln⟩ := id hS
  refine nw_aload_n X d_Col_build_0 rfl (lv_at hl 0 rfl) ?_
  refine gf_Col_7 X V (hz (1, 0) (by first | exact rfl | assumption | exact (by omega : _ < _))) d_Col_build_1 ?_
  rw [hn]
  refine nw_iconst X 1 d_Col_build_4 (by decide) ?_
  refine nw_isub1 X d_Col_build_5 ?_
  refine nw_istore_n X (lv' := [(1, _), (0, _)]) d_Col_build_6 rfl hl (by decide) rfl (fun ls hl => ?_)
  have LP7 : ∀ (d k : Nat) (σ1 : hw_M) (H : Heap) (locs : List Loc) (ls : Array Slot), k < d → (k ≤ zz_n z) → (∀ u : hw_P, u.1 ≠ 8 → u.1 ≠ 10 → σ1 u = σ u) → (lo_ok z σ1 k) → zz_V z σ1 s.heap H locs →  lv_has ls 2 [(0, .ref (zz_A z (1, 0))), (1, .int (nI k - 1))] →  W p l e (hw_r 3) s m args below meth c H locs 0 0 Q (F0 m 7 ls []) := by
    intro d
    induction d with
    | zero => intro k σ1 H locs ls hd; exact absurd hd (Nat.not_lt_zero _)
    | succ d IH7 =>
      intro k σ1 H locs ls hd hkn hfr hL V hl
      have hB := V.1.2.2
      refine nw_iload_n X d_Col_build_7 rfl (lv_at hl 1 rfl) ?_
      refine nw_if_ltp X (tgt := 53) d_Col_build_8 (by decide) (by omega) (fun hk0 => ?_) (fun i hki => ?_)
      · skip
        subst hk0
        refine nw_iconst X 1 d_Col_build_53 (by decide) ?_
        exact hret 1 _ _ _ _ _ d_Col_build_54 V (by decide) ⟨hfr, ⟨fun _ => bl_k hfr hL, fun _ => rfl⟩, fun _ => hL⟩
      · skip
        subst hki
        rw [nI_pred] at hl
        have hi : i < zz_n z := hkn
        have hR1 := rl_keep hR hfr
        refine nw_aload_n X d_Col_build_11 rfl (lv_at hl 0 rfl) ?_
        refine nw_iload_n X d_Col_build_12 rfl (lv_at hl 1 rfl) ?_
        refine hw_callv X V (hz (1, 0) (by first | exact rfl | assumption | exact (by omega : _ < _))) rfl rfl (cm_Col_fillMoves l z σ1 hz i hi hL (hR1.2 i)) cs_Col_42 (by decide) rfl hl.1 rfl (Nat.le_of_ble_eq_true rfl) (by decide) d_Col_build_13 (fun σ2 H locs V hr => ?_)
        obtain ⟨f1, v1⟩ := hr
        have h2 := bl_mid hi hL f1 v1
        have hR2 := rl_keep hR1 h2.2.2
        have hB := V.1.2.2
        refine nw_aload_n X d_Col_build_16 rfl (lv_at hl 0 rfl) ?_
        refine nw_iload_n X d_Col_build_17 rfl (lv_at hl 1 rfl) ?_
        refine hw_callv X V (hz (1, 0) (by first | exact rfl | assumption | exact (by omega : _ < _))) rfl rfl (cm_Col_fillCarries l z σ2 hz i hi h2.1 (hR2.2 i) h2.2.1 (hR2.1 i hi)) cs_Col_46 (by decide) rfl hl.1 rfl (Nat.le_of_ble_eq_true rfl) (by decide) d_Col_build_18 (fun σ3 H locs V hr => ?_)
        obtain ⟨f2, v2⟩ := hr
        have h3 := bl_end (σ := σ) hi h2.1 h2.2.1 hR2 f2 v2 (fun u a b => (h2.2.2 u a b).trans (hfr u a b))
        have hR3 := rl_keep hR h3.2.2.2
        have hB := V.1.2.2
        refine nw_aload_n X d_Col_build_21 rfl (lv_at hl 0 rfl) ?_
        refine nw_iload_n X d_Col_build_22 rfl (lv_at hl 1 rfl) ?_
        refine hw_calli X V (hz (1, 0) (by first | exact rfl | assumption | exact (by omega : _ < _))) rfl rfl (cm_Col_moveKeepsProducts l z σ3 hz i hi h3.1.1 (hR3.2 i) h3.1.2) cs_Col_49 (by decide) rfl hl.1 rfl (Nat.le_of_ble_eq_true rfl) (by decide) d_Col_build_23 (fun r σ' H locs V hr => ?_)
        obtain ⟨b1, b12, rfl, hσ, b1p⟩ := hr
        rw [hσ] at V
        clear hσ
        have hB := V.1.2.2
        refine nw_if_eq X (tgt := 45) d_Col_build_26 (by decide) (by omega) (fun hc => ?_) (fun hd1 => ?_)
        · skip
          have hc1 : ¬ b1 = 1 := by omega
          refine nw_iconst X 0 d_Col_build_45 (by decide) ?_
          exact hret 0 _ _ _ _ _ d_Col_build_46 V (by decide) ⟨h3.2.2.2, ⟨fun q => absurd q (by decide), fun hk => absurd (h3.2.2.1.mp (bl_le h3.2.2.2 hk (by omega))) (fun q => hc1 (b1p.mpr q.1))⟩, fun q => absurd q (by decide)⟩
        · skip
          refine nw_aload_n X d_Col_build_29 rfl (lv_at hl 0 rfl) ?_
          refine nw_iload_n X d_Col_build_30 rfl (lv_at hl 1 rfl) ?_
          refine hw_calli X V (hz (1, 0) (by first | exact rfl | assumption | exact (by omega : _ < _))) rfl rfl (cm_Col_moveKeepsPower l z σ3 hz i hi h3.1.1 (hR3.2 i) h3.1.2 (hR3.1 i hi)) cs_Col_52 (by decide) rfl hl.1 rfl (Nat.le_of_ble_eq_true rfl) (by decide) d_Col_build_31 (fun r σ' H locs V hr => ?_)
          obtain ⟨b2, b22, rfl, hσ, b2p⟩ := hr
          rw [hσ] at V
          clear hσ
          have hB := V.1.2.2
          refine nw_if_eq X (tgt := 45) d_Col_build_34 (by decide) (by omega) (fun hc => ?_) (fun hd2 => ?_)
          · skip
            have hc2 : ¬ b2 = 1 := by omega
            refine nw_iconst X 0 d_Col_build_45 (by decide) ?_
            exact hret 0 _ _ _ _ _ d_Col_build_46 V (by decide) ⟨h3.2.2.2, ⟨fun q => absurd q (by decide), fun hk => absurd (h3.2.2.1.mp (bl_le h3.2.2.2 hk (by omega))) (fun q => hc2 (b2p.mpr q.2.1))⟩, fun q => absurd q (by decide)⟩
          · skip
            refine nw_aload_n X d_Col_build_37 rfl (lv_at hl 0 rfl) ?_
            refine nw_iload_n X d_Col_build_38 rfl (lv_at hl 1 rfl) ?_
            refine hw_calli X V (hz (1, 0) (by first | exact rfl | assumption | exact (by omega : _ < _))) rfl rfl (cm_Col_fullTurnIsPower l z σ3 hz i hi h3.1.1 (hR3.2 i) h3.1.2 (hR3.1 i hi)) cs_Col_55 (by decide) rfl hl.1 rfl (Nat.le_of_ble_eq_true rfl) (by decide) d_Col_build_39 (fun r σ' H locs V hr => ?_)
            obtain ⟨b3, b32, rfl, hσ, b3p⟩ := hr
            rw [hσ] at V
            clear hσ
            have hB := V.1.2.2
            refine nw_if_ne X (tgt := 47) d_Col_build_42 (by decide) (by omega) (fun hd3 => ?_) (fun hc => ?_)
            · skip
              refine nw_idec X (lv' := [(1, _), (0, _)]) (k := 1) d_Col_build_47 hl rfl (by decide) rfl (fun ls hl => ?_)
              refine nw_goto X (tgt := 7) d_Col_build_50 (by decide) ?_
              exact IH7 i _ _ _ _ (by omega) (by omega) h3.2.2.2 (h3.2.1 (h3.2.2.1.mpr ⟨b1p.mp (by omega), b2p.mp (by omega), b3p.mp (by omega)⟩)) V (lv_sub hl [1, 0] rfl)
            · skip
              have hc3 : ¬ b3 = 1 := by omega
              refine nw_iconst X 0 d_Col_build_45 (by decide) ?_
              exact hret 0 _ _ _ _ _ d_Col_build_46 V (by decide) ⟨h3.2.2.2, ⟨fun q => absurd q (by decide), fun hk => absurd (h3.2.2.1.mp (bl_le h3.2.2.2 hk (by omega))) (fun q => hc3 (b3p.mpr q.2.2))⟩, fun q => absurd q (by decide)⟩
  exact LP7 (zz_n z + 1) (zz_n z) _ _ _ _ (by omega) (Nat.le_refl _) (fun _ _ _ => rfl) (lo_top hS) V (lv_sub hl [1, 0] rfl)
