/-! The class: flags and elements. By program (wip/whole/gen/top.py). -/
set_option maxHeartbeats 4000000 in
set_option maxRecDepth 20000 in
theorem cm_Top_generators (l : Launch) (z : zz_Z) (σ : hw_M) (hz : ∀ k, zz_k (zz_n z) k → zz_O z k) (S : Nat → Nat → Prop) (hC : cs_ok z σ S) : Met l y_Top_generators (hw_c y_Top_generators b_Top_generators 1 (some .int)) (hw_r 1) (va_Pc [.ref (zz_A z (0, 0))] (zz_B z σ)) (va_Qi (fun r σ' => σ' = σ ∧ r = nI (zz_n z)) (zz_B z) (zz_F z)) 0 0 (zz_F z) := by
  refine hw_meti (post := (fun r σ' => σ' = σ ∧ r = nI (zz_n z))) (by decide) (Nat.le_of_ble_eq_true rfl) ?_
  intro p e s m args below meth c ls Q X hret V hl
  have hl : lv_has ls 1 [(0, .ref (zz_A z (0, 0)))] := hl
  have hB := V.1.2.2
  obtain ⟨hS, hR, hf2, hes, hfx⟩ := id hC
  obtain ⟨hn7, hN, hn, hNe, hw, hsz, hln⟩ := id hS
  refine nw_aload_n X d_Top_generators_0 rfl (lv_at hl 0 rfl) ?_
  refine gf_Top_18 X V (hz (0, 0) rfl) d_Top_generators_1 ?_
  refine hw_calli X V (hz (1, 0) rfl) rfl rfl (cm_Col_letterCount l z σ hz hS) cs_Top_58 (by decide) rfl hl.1 rfl (Nat.le_of_ble_eq_true rfl) (by decide) d_Top_generators_4 (fun r σ' H locs V hr => ?_)
  obtain ⟨hσ, rfl⟩ := hr
  rw [hσ] at V
  clear hσ
  have hB := V.1.2.2
  exact hret _ _ _ _ _ _ d_Top_generators_7 V ⟨rfl, rfl⟩
set_option maxHeartbeats 4000000 in
set_option maxRecDepth 20000 in
theorem cm_Top_size (l : Launch) (z : zz_Z) (σ : hw_M) (hz : ∀ k, zz_k (zz_n z) k → zz_O z k) (S : Nat → Nat → Prop) (hC : cs_ok z σ S) : Met l y_Top_size (hw_c y_Top_size b_Top_size 1 (some .int)) (hw_r 1) (va_Pc [.ref (zz_A z (0, 0))] (zz_B z σ)) (va_Qi (fun r σ' => σ' = σ ∧ r = nI (zz_N z)) (zz_B z) (zz_F z)) 0 0 (zz_F z) := by
  refine hw_meti (post := (fun r σ' => σ' = σ ∧ r = nI (zz_N z))) (by decide) (Nat.le_of_ble_eq_true rfl) ?_
  intro p e s m args below meth c ls Q X hret V hl
  have hl : lv_has ls 1 [(0, .ref (zz_A z (0, 0)))] := hl
  have hB := V.1.2.2
  obtain ⟨hS, hR, hf2, hes, hfx⟩ := id hC
  obtain ⟨hn7, hN, hn, hNe, hw, hsz, hln⟩ := id hS
  refine nw_aload_n X d_Top_size_0 rfl (lv_at hl 0 rfl) ?_
  refine gf_Top_18 X V (hz (0, 0) rfl) d_Top_size_1 ?_
  refine hw_calli X V (hz (1, 0) rfl) rfl rfl (cm_Col_elementCount l z σ (hz (1, 0) rfl)) cs_Top_43 (by decide) rfl hl.1 rfl (Nat.le_of_ble_eq_true rfl) (by decide) d_Top_size_4 (fun r σ' H locs V hr => ?_)
  obtain ⟨hσ, rfl⟩ := hr
  rw [hσ] at V
  clear hσ
  have hB := V.1.2.2
  exact hret _ _ _ _ _ _ d_Top_size_7 V ⟨rfl, by rw [hNe]⟩
set_option maxHeartbeats 4000000 in
set_option maxRecDepth 20000 in
theorem cm_Top_generator (l : Launch) (z : zz_Z) (σ : hw_M) (hz : ∀ k, zz_k (zz_n z) k → zz_O z k) (S : Nat → Nat → Prop) (hC : cs_ok z σ S) (x : Int32) : Met l y_Top_generator (hw_c y_Top_generator b_Top_generator 2 (some .int)) (hw_r 1) (va_Pc [.ref (zz_A z (0, 0)), .int x] (zz_B z σ)) (va_Qi (fun r σ' => σ' = σ ∧ an_o (el_i (zz_n z) x) (σ (3, 0) (el_v x)) r) (zz_B z) (zz_F z)) 0 0 (zz_F z) := by
  refine hw_meti (post := (fun r σ' => σ' = σ ∧ an_o (el_i (zz_n z) x) (σ (3, 0) (el_v x)) r)) (by decide) (Nat.le_of_ble_eq_true rfl) ?_
  intro p e s m args below meth c ls Q X hret V hl
  have hl : lv_has ls 2 [(0, .ref (zz_A z (0, 0))), (1, .int x)] := hl
  have hB := V.1.2.2
  obtain ⟨hS, hR, hf2, hes, hfx⟩ := id hC
  obtain ⟨hn7, hN, hn, hNe, hw, hsz, hln⟩ := id hS
  refine nw_aload_n X d_Top_generator_0 rfl (lv_at hl 0 rfl) ?_
  refine gf_Top_18 X V (hz (0, 0) rfl) d_Top_generator_1 ?_
  refine nw_iload_n X d_Top_generator_4 rfl (lv_at hl 1 rfl) ?_
  refine hw_calli X V (hz (1, 0) rfl) rfl rfl (cm_Col_isLetter l z σ hz hS x) cs_Top_61 (by decide) rfl hl.1 rfl (Nat.le_of_ble_eq_true rfl) (by decide) d_Top_generator_5 (fun r σ' H locs V hr => ?_)
  obtain ⟨b, hb, rfl, hσ, hbp⟩ := hr
  rw [hσ] at V
  clear hσ
  have hB := V.1.2.2
  refine nw_if_eq X (tgt := 22) d_Top_generator_8 (by decide) (by omega) (fun hc => ?_) (fun hc => ?_)
  · skip
    refine nw_iconstv X (-1) d_Top_generator_22 (by decide) ?_
    exact hret _ _ _ _ _ _ d_Top_generator_23 V ⟨rfl, fun h => absurd (hbp.mpr h) (by omega), fun _ => rfl⟩
  · skip
    obtain ⟨j, hj, rfl⟩ := hbp.mp (by omega)
    refine nw_aload_n X d_Top_generator_11 rfl (lv_at hl 0 rfl) ?_
    refine gf_Top_18 X V (hz (0, 0) rfl) d_Top_generator_12 ?_
    refine nw_iload_n X d_Top_generator_15 rfl (lv_at hl 1 rfl) ?_
    refine hw_calli X V (hz (1, 0) rfl) rfl rfl (cm_Col_letter l z σ hz hS j hj) cs_Top_65 (by decide) rfl hl.1 rfl (Nat.le_of_ble_eq_true rfl) (by decide) d_Top_generator_16 (fun r σ' H locs V hr => ?_)
    obtain ⟨hσ, rfl⟩ := hr
    rw [hσ] at V
    clear hσ
    have hB := V.1.2.2
    refine nw_goto X (tgt := 23) d_Top_generator_19 (by decide) ?_
    exact hret _ _ _ _ _ _ d_Top_generator_23 V ⟨rfl, fun _ => by rw [show el_v (nI j) = j from el_nv (by omega) hj], fun h => absurd ⟨j, hj, rfl⟩ h⟩
set_option maxHeartbeats 4000000 in
set_option maxRecDepth 20000 in
theorem cm_Top_isElement (l : Launch) (z : zz_Z) (σ : hw_M) (hz : ∀ k, zz_k (zz_n z) k → zz_O z k) (S : Nat → Nat → Prop) (hC : cs_ok z σ S) (x : Int32) : Met l y_Top_isElement (hw_c y_Top_isElement b_Top_isElement 2 (some .boolean)) (hw_r 1) (va_Pc [.ref (zz_A z (0, 0)), .int x] (zz_B z σ)) (va_Qi (fun r σ' => ∃ b, b < 2 ∧ r = nI b ∧ (fun b σ' => σ' = σ ∧ (b = 1 ↔ σ (0, 0) 6 = 1 ∧ el_i (zz_N z) x)) b σ') (zz_B z) (zz_F z)) 0 0 (zz_F z) := by
  refine hw_metz (post := (fun b σ' => σ' = σ ∧ (b = 1 ↔ σ (0, 0) 6 = 1 ∧ el_i (zz_N z) x))) (by decide) (Nat.le_of_ble_eq_true rfl) ?_
  intro p e s m args below meth c ls Q X hret V hl
  have hl : lv_has ls 2 [(0, .ref (zz_A z (0, 0))), (1, .int x)] := hl
  have hB := V.1.2.2
  obtain ⟨hS, hR, hf2, hes, hfx⟩ := id hC
  obtain ⟨hn7, hN, hn, hNe, hw, hsz, hln⟩ := id hS
  refine nw_aload_n X d_Top_isElement_0 rfl (lv_at hl 0 rfl) ?_
  refine gf_Top_54 X V (hz (0, 0) rfl) d_Top_isElement_1 ?_
  refine nw_if_eq X (tgt := 26) d_Top_isElement_4 (by decide) (by omega) (fun hc => ?_) (fun hc => ?_)
  · skip
    have hno : ¬ (σ (0, 0) 6 = 1 ∧ el_i (zz_N z) x) := fun h => by omega
    refine nw_iconst X 0 d_Top_isElement_26 (by decide) ?_
    exact hret 0 _ _ _ _ _ d_Top_isElement_27 V (by decide) ⟨rfl, fun q => absurd q (by decide), fun q => absurd q hno⟩
  · skip
    have hf1 : σ (0, 0) 6 = 1 := by omega
    refine nw_iload_n X d_Top_isElement_7 rfl (lv_at hl 1 rfl) ?_
    refine lv_if_lt (tgt := 26) X.1.1 X.1.2.1 d_Top_isElement_8 (by decide) (fun hc => ?_) (fun hc => ?_)
    · skip
      have hno : ¬ (σ (0, 0) 6 = 1 ∧ el_i (zz_N z) x) := fun ⟨_, j, hj, e⟩ => by rw [e] at hc; exact nI_pos (by omega) hc
      refine nw_iconst X 0 d_Top_isElement_26 (by decide) ?_
      exact hret 0 _ _ _ _ _ d_Top_isElement_27 V (by decide) ⟨rfl, fun q => absurd q (by decide), fun q => absurd q hno⟩
    · skip
      have h0 := hc
      refine nw_iload_n X d_Top_isElement_11 rfl (lv_at hl 1 rfl) ?_
      refine nw_aload_n X d_Top_isElement_12 rfl (lv_at hl 0 rfl) ?_
      refine gf_Top_18 X V (hz (0, 0) rfl) d_Top_isElement_13 ?_
      refine hw_calli X V (hz (1, 0) rfl) rfl rfl (cm_Col_elementCount l z σ (hz (1, 0) rfl)) cs_Top_43 (by decide) rfl hl.1 rfl (Nat.le_of_ble_eq_true rfl) (by decide) d_Top_isElement_16 (fun r σ' H locs V hr => ?_)
      obtain ⟨hσ, rfl⟩ := hr
      rw [hσ] at V
      clear hσ
      have hB := V.1.2.2
      rw [hNe]
      refine lv_icmp_ge (tgt := 26) X.1.1 X.1.2.1 d_Top_isElement_19 (by decide) (fun hc => ?_) (fun hc => ?_)
      · skip
        have hno : ¬ (σ (0, 0) 6 = 1 ∧ el_i (zz_N z) x) := fun ⟨_, j, hj, e⟩ => by rw [e] at hc; exact nI_ge hj (by omega) hc
        refine nw_iconst X 0 d_Top_isElement_26 (by decide) ?_
        exact hret 0 _ _ _ _ _ d_Top_isElement_27 V (by decide) ⟨rfl, fun q => absurd q (by decide), fun q => absurd q hno⟩
      · skip
        have hyes : el_i (zz_N z) x := by
          rcases pk_ix x (n := zz_N z) (by omega) with h | h | h
          · exact absurd h h0
          · exact absurd h hc
          · exact h
        refine nw_iconst X 1 d_Top_isElement_22 (by decide) ?_
        refine nw_goto X (tgt := 27) d_Top_isElement_23 (by decide) ?_
        exact hret 1 _ _ _ _ _ d_Top_isElement_27 V (by decide) ⟨rfl, fun _ => ⟨hf1, hyes⟩, fun _ => rfl⟩
set_option maxHeartbeats 4000000 in
set_option maxRecDepth 20000 in
theorem cm_Top_isPlace (l : Launch) (z : zz_Z) (σ : hw_M) (hz : ∀ k, zz_k (zz_n z) k → zz_O z k) (S : Nat → Nat → Prop) (hC : cs_ok z σ S) (x : Int32) : Met l y_Top_isPlace (hw_c y_Top_isPlace b_Top_isPlace 2 (some .boolean)) (hw_r 1) (va_Pc [.ref (zz_A z (0, 0)), .int x] (zz_B z σ)) (va_Qi (fun r σ' => ∃ b, b < 2 ∧ r = nI b ∧ (fun b σ' => σ' = σ ∧ (b = 1 ↔ σ (0, 0) 6 = 1 ∧ el_i 4 x)) b σ') (zz_B z) (zz_F z)) 0 0 (zz_F z) := by
  refine hw_metz (post := (fun b σ' => σ' = σ ∧ (b = 1 ↔ σ (0, 0) 6 = 1 ∧ el_i 4 x))) (by decide) (Nat.le_of_ble_eq_true rfl) ?_
  intro p e s m args below meth c ls Q X hret V hl
  have hl : lv_has ls 2 [(0, .ref (zz_A z (0, 0))), (1, .int x)] := hl
  have hB := V.1.2.2
  obtain ⟨hS, hR, hf2, hes, hfx⟩ := id hC
  obtain ⟨hn7, hN, hn, hNe, hw, hsz, hln⟩ := id hS
  refine nw_aload_n X d_Top_isPlace_0 rfl (lv_at hl 0 rfl) ?_
  refine gf_Top_54 X V (hz (0, 0) rfl) d_Top_isPlace_1 ?_
  refine nw_if_eq X (tgt := 20) d_Top_isPlace_4 (by decide) (by omega) (fun hc => ?_) (fun hc => ?_)
  · skip
    have hno : ¬ (σ (0, 0) 6 = 1 ∧ el_i 4 x) := fun h => by omega
    refine nw_iconst X 0 d_Top_isPlace_20 (by decide) ?_
    exact hret 0 _ _ _ _ _ d_Top_isPlace_21 V (by decide) ⟨rfl, fun q => absurd q (by decide), fun q => absurd q hno⟩
  · skip
    have hf1 : σ (0, 0) 6 = 1 := by omega
    refine nw_iload_n X d_Top_isPlace_7 rfl (lv_at hl 1 rfl) ?_
    refine lv_if_lt (tgt := 20) X.1.1 X.1.2.1 d_Top_isPlace_8 (by decide) (fun hc => ?_) (fun hc => ?_)
    · skip
      have hno : ¬ (σ (0, 0) 6 = 1 ∧ el_i 4 x) := fun ⟨_, j, hj, e⟩ => by rw [e] at hc; exact nI_pos (by omega) hc
      refine nw_iconst X 0 d_Top_isPlace_20 (by decide) ?_
      exact hret 0 _ _ _ _ _ d_Top_isPlace_21 V (by decide) ⟨rfl, fun q => absurd q (by decide), fun q => absurd q hno⟩
    · skip
      have h0 := hc
      refine nw_iload_n X d_Top_isPlace_11 rfl (lv_at hl 1 rfl) ?_
      refine nw_iconst X 4 d_Top_isPlace_12 (by decide) ?_
      refine lv_icmp_ge (tgt := 20) X.1.1 X.1.2.1 d_Top_isPlace_13 (by decide) (fun hc => ?_) (fun hc => ?_)
      · skip
        have hno : ¬ (σ (0, 0) 6 = 1 ∧ el_i 4 x) := fun ⟨_, j, hj, e⟩ => by rw [e] at hc; exact nI_ge hj (by decide) hc
        refine nw_iconst X 0 d_Top_isPlace_20 (by decide) ?_
        exact hret 0 _ _ _ _ _ d_Top_isPlace_21 V (by decide) ⟨rfl, fun q => absurd q (by decide), fun q => absurd q hno⟩
      · skip
        have hyes : el_i 4 x := by
          rcases pk_ix x (n := 4) (by decide) with h | h | h
          · exact absurd h h0
          · exact absurd h hc
          · exact h
        refine nw_iconst X 1 d_Top_isPlace_16 (by decide) ?_
        refine nw_goto X (tgt := 21) d_Top_isPlace_17 (by decide) ?_
        exact hret 1 _ _ _ _ _ d_Top_isPlace_21 V (by decide) ⟨rfl, fun _ => ⟨hf1, hyes⟩, fun _ => rfl⟩
set_option maxHeartbeats 4000000 in
set_option maxRecDepth 20000 in
theorem cm_Top_release (l : Launch) (z : zz_Z) (σ : hw_M) (hz : ∀ k, zz_k (zz_n z) k → zz_O z k) (S : Nat → Nat → Prop) (hC : cs_ok z σ S) : Met l y_Top_release (hw_c y_Top_release b_Top_release 1 none) (hw_r 0) (va_Pc [.ref (zz_A z (0, 0))] (zz_B z σ)) (va_Qv (fun σ' => cs_ok z σ' S ∧ σ' = hw_up σ (0, 0) 6 0) (zz_B z) (zz_F z)) 0 0 (zz_F z) := by
  refine hw_metv (post := (fun σ' => cs_ok z σ' S ∧ σ' = hw_up σ (0, 0) 6 0)) (by decide) (Nat.le_of_ble_eq_true rfl) ?_
  intro p e s m args below meth c ls Q X hret V hl
  have hl : lv_has ls 1 [(0, .ref (zz_A z (0, 0)))] := hl
  have hB := V.1.2.2
  obtain ⟨hS, hR, hf2, hes, hfx⟩ := id hC
  obtain ⟨hn7, hN, hn, hNe, hw, hsz, hln⟩ := id hS
  refine nw_aload_n X d_Top_release_0 rfl (lv_at hl 0 rfl) ?_
  refine nw_iconst X 0 d_Top_release_1 (by decide) ?_
  refine pf_Top_54 X V (hz (0, 0) rfl) (by decide) d_Top_release_2 (fun H locs V => ?_)
  exact hret _ _ _ _ _ d_Top_release_5 V ⟨cs_rel hC, rfl⟩
set_option maxHeartbeats 4000000 in
set_option maxRecDepth 20000 in
theorem cm_Top_fixed (l : Launch) (z : zz_Z) (σ : hw_M) (hz : ∀ k, zz_k (zz_n z) k → zz_O z k) (S : Nat → Nat → Prop) (hC : cs_ok z σ S) : Met l y_Top_fixed (hw_c y_Top_fixed b_Top_fixed 1 (some .boolean)) (hw_r 0) (va_Pc [.ref (zz_A z (0, 0))] (zz_B z σ)) (va_Qi (fun r σ' => ∃ b, b < 2 ∧ r = nI b ∧ (fun b σ' => σ' = σ ∧ b = σ (0, 0) 6) b σ') (zz_B z) (zz_F z)) 0 0 (zz_F z) := by
  refine hw_metz (post := (fun b σ' => σ' = σ ∧ b = σ (0, 0) 6)) (by decide) (Nat.le_of_ble_eq_true rfl) ?_
  intro p e s m args below meth c ls Q X hret V hl
  have hl : lv_has ls 1 [(0, .ref (zz_A z (0, 0)))] := hl
  have hB := V.1.2.2
  obtain ⟨hS, hR, hf2, hes, hfx⟩ := id hC
  obtain ⟨hn7, hN, hn, hNe, hw, hsz, hln⟩ := id hS
  refine nw_aload_n X d_Top_fixed_0 rfl (lv_at hl 0 rfl) ?_
  refine gf_Top_54 X V (hz (0, 0) rfl) d_Top_fixed_1 ?_
  exact hret _ _ _ _ _ _ d_Top_fixed_4 V hf2 ⟨rfl, rfl⟩
set_option maxHeartbeats 4000000 in
set_option maxRecDepth 20000 in
theorem cm_Top_product (l : Launch) (z : zz_Z) (σ : hw_M) (hz : ∀ k, zz_k (zz_n z) k → zz_O z k) (S : Nat → Nat → Prop) (hC : cs_ok z σ S) (x y : Int32) : Met l y_Top_product (hw_c y_Top_product b_Top_product 3 (some .int)) (hw_r 2) (va_Pc [.ref (zz_A z (0, 0)), .int x, .int y] (zz_B z σ)) (va_Qi (fun r σ' => σ' = σ ∧ an_o (σ (0, 0) 6 = 1 ∧ el_i (zz_N z) x ∧ el_i (zz_N z) y) (gr_p z σ (el_v x) (el_v y)) r) (zz_B z) (zz_F z)) 0 0 (zz_F z) := by
  refine hw_meti (post := (fun r σ' => σ' = σ ∧ an_o (σ (0, 0) 6 = 1 ∧ el_i (zz_N z) x ∧ el_i (zz_N z) y) (gr_p z σ (el_v x) (el_v y)) r)) (by decide) (Nat.le_of_ble_eq_true rfl) ?_
  intro p e s m args below meth c ls Q X hret V hl
  have hl : lv_has ls 3 [(0, .ref (zz_A z (0, 0))), (1, .int x), (2, .int y)] := hl
  have hB := V.1.2.2
  obtain ⟨hS, hR, hf2, hes, hfx⟩ := id hC
  obtain ⟨hn7, hN, hn, hNe, hw, hsz, hln⟩ := id hS
  refine nw_aload_n X d_Top_product_0 rfl (lv_at hl 0 rfl) ?_
  refine nw_iload_n X d_Top_product_1 rfl (lv_at hl 1 rfl) ?_
  refine hw_calli X V (hz (0, 0) rfl) rfl rfl (cm_Top_isElement l z σ hz S hC x) cs_Top_91 (by decide) rfl hl.1 rfl (Nat.le_of_ble_eq_true rfl) (by decide) d_Top_product_2 (fun r σ' H locs V hr => ?_)
  obtain ⟨b1, hb1, rfl, hσ, hbp1⟩ := hr
  rw [hσ] at V
  clear hσ
  have hB := V.1.2.2
  refine nw_if_eq X (tgt := 28) d_Top_product_5 (by decide) (by omega) (fun hc => ?_) (fun hc => ?_)
  · skip
    have hno : ¬ (σ (0, 0) 6 = 1 ∧ el_i (zz_N z) x ∧ el_i (zz_N z) y) := fun h => by have := hbp1.mpr ⟨h.1, h.2.1⟩; omega
    refine nw_iconstv X (-1) d_Top_product_28 (by decide) ?_
    exact hret _ _ _ _ _ _ d_Top_product_29 V ⟨rfl, fun h => absurd h hno, fun _ => rfl⟩
  · skip
    refine nw_aload_n X d_Top_product_8 rfl (lv_at hl 0 rfl) ?_
    refine nw_iload_n X d_Top_product_9 rfl (lv_at hl 2 rfl) ?_
    refine hw_calli X V (hz (0, 0) rfl) rfl rfl (cm_Top_isElement l z σ hz S hC y) cs_Top_91 (by decide) rfl hl.1 rfl (Nat.le_of_ble_eq_true rfl) (by decide) d_Top_product_10 (fun r σ' H locs V hr => ?_)
    obtain ⟨b2, hb2, rfl, hσ, hbp2⟩ := hr
    rw [hσ] at V
    clear hσ
    have hB := V.1.2.2
    refine nw_if_eq X (tgt := 28) d_Top_product_13 (by decide) (by omega) (fun hc2 => ?_) (fun hc2 => ?_)
    · skip
      have hno : ¬ (σ (0, 0) 6 = 1 ∧ el_i (zz_N z) x ∧ el_i (zz_N z) y) := fun h => by have := hbp2.mpr ⟨h.1, h.2.2⟩; omega
      refine nw_iconstv X (-1) d_Top_product_28 (by decide) ?_
      exact hret _ _ _ _ _ _ d_Top_product_29 V ⟨rfl, fun h => absurd h hno, fun _ => rfl⟩
    · skip
      obtain ⟨hf1, i, hi, rfl⟩ := hbp1.mp (by omega)
      obtain ⟨-, j, hj, rfl⟩ := hbp2.mp (by omega)
      have hL := (hfx hf1).1
      refine nw_aload_n X d_Top_product_16 rfl (lv_at hl 0 rfl) ?_
      refine gf_Top_18 X V (hz (0, 0) rfl) d_Top_product_17 ?_
      refine nw_iload_n X d_Top_product_20 rfl (lv_at hl 1 rfl) ?_
      refine nw_iload_n X d_Top_product_21 rfl (lv_at hl 2 rfl) ?_
      refine hw_calli X V (hz (1, 0) rfl) rfl rfl (cm_Col_multiply l z σ hz hL i j hi hj) cs_Top_94 (by decide) rfl hl.1 rfl (Nat.le_of_ble_eq_true rfl) (by decide) d_Top_product_22 (fun r σ' H locs V hr => ?_)
      obtain ⟨hσ, rfl⟩ := hr
      rw [hσ] at V
      clear hσ
      have hB := V.1.2.2
      refine nw_goto X (tgt := 29) d_Top_product_25 (by decide) ?_
      exact hret _ _ _ _ _ _ d_Top_product_29 V ⟨rfl, fun _ => by rw [show el_v (nI i) = i from el_nv (by omega) hi, show el_v (nI j) = j from el_nv (by omega) hj], fun h => absurd ⟨hf1, ⟨i, hi, rfl⟩, j, hj, rfl⟩ h⟩
set_option maxHeartbeats 4000000 in
set_option maxRecDepth 20000 in
theorem cm_Top_conjugated (l : Launch) (z : zz_Z) (σ : hw_M) (hz : ∀ k, zz_k (zz_n z) k → zz_O z k) (S : Nat → Nat → Prop) (hC : cs_ok z σ S) (x y : Int32) : Met l y_Top_conjugated (hw_c y_Top_conjugated b_Top_conjugated 3 (some .int)) (hw_r 3) (va_Pc [.ref (zz_A z (0, 0)), .int x, .int y] (zz_B z σ)) (va_Qi (fun r σ' => σ' = σ ∧ an_o (σ (0, 0) 6 = 1 ∧ el_i (zz_N z) x ∧ el_i (zz_N z) y) (gp_cj (zz_N z) (gr_p z σ) (el_v x) (el_v y)) r) (zz_B z) (zz_F z)) 0 0 (zz_F z) := by
  refine hw_meti (post := (fun r σ' => σ' = σ ∧ an_o (σ (0, 0) 6 = 1 ∧ el_i (zz_N z) x ∧ el_i (zz_N z) y) (gp_cj (zz_N z) (gr_p z σ) (el_v x) (el_v y)) r)) (by decide) (Nat.le_of_ble_eq_true rfl) ?_
  intro p e s m args below meth c ls Q X hret V hl
  have hl : lv_has ls 3 [(0, .ref (zz_A z (0, 0))), (1, .int x), (2, .int y)] := hl
  have hB := V.1.2.2
  obtain ⟨hS, hR, hf2, hes, hfx⟩ := id hC
  obtain ⟨hn7, hN, hn, hNe, hw, hsz, hln⟩ := id hS
  refine nw_aload_n X d_Top_conjugated_0 rfl (lv_at hl 0 rfl) ?_
  refine nw_iload_n X d_Top_conjugated_1 rfl (lv_at hl 1 rfl) ?_
  refine hw_calli X V (hz (0, 0) rfl) rfl rfl (cm_Top_isElement l z σ hz S hC x) cs_Top_91 (by decide) rfl hl.1 rfl (Nat.le_of_ble_eq_true rfl) (by decide) d_Top_conjugated_2 (fun r σ' H locs V hr => ?_)
  obtain ⟨b1, hb1, rfl, hσ, hbp1⟩ := hr
  rw [hσ] at V
  clear hσ
  have hB := V.1.2.2
  refine nw_if_eq X (tgt := 28) d_Top_conjugated_5 (by decide) (by omega) (fun hc => ?_) (fun hc => ?_)
  · skip
    have hno : ¬ (σ (0, 0) 6 = 1 ∧ el_i (zz_N z) x ∧ el_i (zz_N z) y) := fun h => by have := hbp1.mpr ⟨h.1, h.2.1⟩; omega
    refine nw_iconstv X (-1) d_Top_conjugated_28 (by decide) ?_
    exact hret _ _ _ _ _ _ d_Top_conjugated_29 V ⟨rfl, fun h => absurd h hno, fun _ => rfl⟩
  · skip
    refine nw_aload_n X d_Top_conjugated_8 rfl (lv_at hl 0 rfl) ?_
    refine nw_iload_n X d_Top_conjugated_9 rfl (lv_at hl 2 rfl) ?_
    refine hw_calli X V (hz (0, 0) rfl) rfl rfl (cm_Top_isElement l z σ hz S hC y) cs_Top_91 (by decide) rfl hl.1 rfl (Nat.le_of_ble_eq_true rfl) (by decide) d_Top_conjugated_10 (fun r σ' H locs V hr => ?_)
    obtain ⟨b2, hb2, rfl, hσ, hbp2⟩ := hr
    rw [hσ] at V
    clear hσ
    have hB := V.1.2.2
    refine nw_if_eq X (tgt := 28) d_Top_conjugated_13 (by decide) (by omega) (fun hc2 => ?_) (fun hc2 => ?_)
    · skip
      have hno : ¬ (σ (0, 0) 6 = 1 ∧ el_i (zz_N z) x ∧ el_i (zz_N z) y) := fun h => by have := hbp2.mpr ⟨h.1, h.2.2⟩; omega
      refine nw_iconstv X (-1) d_Top_conjugated_28 (by decide) ?_
      exact hret _ _ _ _ _ _ d_Top_conjugated_29 V ⟨rfl, fun h => absurd h hno, fun _ => rfl⟩
    · skip
      obtain ⟨hf1, i, hi, rfl⟩ := hbp1.mp (by omega)
      obtain ⟨-, j, hj, rfl⟩ := hbp2.mp (by omega)
      have hL := (hfx hf1).1
      refine nw_aload_n X d_Top_conjugated_16 rfl (lv_at hl 0 rfl) ?_
      refine gf_Top_18 X V (hz (0, 0) rfl) d_Top_conjugated_17 ?_
      refine nw_iload_n X d_Top_conjugated_20 rfl (lv_at hl 1 rfl) ?_
      refine nw_iload_n X d_Top_conjugated_21 rfl (lv_at hl 2 rfl) ?_
      refine hw_calli X V (hz (1, 0) rfl) rfl rfl (cm_Col_conjugateOf l z σ hz hL i j hi hj) cs_Top_109 (by decide) rfl hl.1 rfl (Nat.le_of_ble_eq_true rfl) (by decide) d_Top_conjugated_22 (fun r σ' H locs V hr => ?_)
      obtain ⟨hσ, rfl⟩ := hr
      rw [hσ] at V
      clear hσ
      have hB := V.1.2.2
      refine nw_goto X (tgt := 29) d_Top_conjugated_25 (by decide) ?_
      exact hret _ _ _ _ _ _ d_Top_conjugated_29 V ⟨rfl, fun _ => by rw [show el_v (nI i) = i from el_nv (by omega) hi, show el_v (nI j) = j from el_nv (by omega) hj], fun h => absurd ⟨hf1, ⟨i, hi, rfl⟩, j, hj, rfl⟩ h⟩
set_option maxHeartbeats 4000000 in
set_option maxRecDepth 20000 in
theorem cm_Top_commutator (l : Launch) (z : zz_Z) (σ : hw_M) (hz : ∀ k, zz_k (zz_n z) k → zz_O z k) (S : Nat → Nat → Prop) (hC : cs_ok z σ S) (x y : Int32) : Met l y_Top_commutator (hw_c y_Top_commutator b_Top_commutator 3 (some .int)) (hw_r 4) (va_Pc [.ref (zz_A z (0, 0)), .int x, .int y] (zz_B z σ)) (va_Qi (fun r σ' => σ' = σ ∧ an_o (σ (0, 0) 6 = 1 ∧ el_i (zz_N z) x ∧ el_i (zz_N z) y) (gp_cm (zz_N z) (gr_p z σ) (el_v x) (el_v y)) r) (zz_B z) (zz_F z)) 0 0 (zz_F z) := by
  refine hw_meti (post := (fun r σ' => σ' = σ ∧ an_o (σ (0, 0) 6 = 1 ∧ el_i (zz_N z) x ∧ el_i (zz_N z) y) (gp_cm (zz_N z) (gr_p z σ) (el_v x) (el_v y)) r)) (by decide) (Nat.le_of_ble_eq_true rfl) ?_
  intro p e s m args below meth c ls Q X hret V hl
  have hl : lv_has ls 3 [(0, .ref (zz_A z (0, 0))), (1, .int x), (2, .int y)] := hl
  have hB := V.1.2.2
  obtain ⟨hS, hR, hf2, hes, hfx⟩ := id hC
  obtain ⟨hn7, hN, hn, hNe, hw, hsz, hln⟩ := id hS
  refine nw_aload_n X d_Top_commutator_0 rfl (lv_at hl 0 rfl) ?_
  refine nw_iload_n X d_Top_commutator_1 rfl (lv_at hl 1 rfl) ?_
  refine hw_calli X V (hz (0, 0) rfl) rfl rfl (cm_Top_isElement l z σ hz S hC x) cs_Top_91 (by decide) rfl hl.1 rfl (Nat.le_of_ble_eq_true rfl) (by decide) d_Top_commutator_2 (fun r σ' H locs V hr => ?_)
  obtain ⟨b1, hb1, rfl, hσ, hbp1⟩ := hr
  rw [hσ] at V
  clear hσ
  have hB := V.1.2.2
  refine nw_if_eq X (tgt := 28) d_Top_commutator_5 (by decide) (by omega) (fun hc => ?_) (fun hc => ?_)
  · skip
    have hno : ¬ (σ (0, 0) 6 = 1 ∧ el_i (zz_N z) x ∧ el_i (zz_N z) y) := fun h => by have := hbp1.mpr ⟨h.1, h.2.1⟩; omega
    refine nw_iconstv X (-1) d_Top_commutator_28 (by decide) ?_
    exact hret _ _ _ _ _ _ d_Top_commutator_29 V ⟨rfl, fun h => absurd h hno, fun _ => rfl⟩
  · skip
    refine nw_aload_n X d_Top_commutator_8 rfl (lv_at hl 0 rfl) ?_
    refine nw_iload_n X d_Top_commutator_9 rfl (lv_at hl 2 rfl) ?_
    refine hw_calli X V (hz (0, 0) rfl) rfl rfl (cm_Top_isElement l z σ hz S hC y) cs_Top_91 (by decide) rfl hl.1 rfl (Nat.le_of_ble_eq_true rfl) (by decide) d_Top_commutator_10 (fun r σ' H locs V hr => ?_)
    obtain ⟨b2, hb2, rfl, hσ, hbp2⟩ := hr
    rw [hσ] at V
    clear hσ
    have hB := V.1.2.2
    refine nw_if_eq X (tgt := 28) d_Top_commutator_13 (by decide) (by omega) (fun hc2 => ?_) (fun hc2 => ?_)
    · skip
      have hno : ¬ (σ (0, 0) 6 = 1 ∧ el_i (zz_N z) x ∧ el_i (zz_N z) y) := fun h => by have := hbp2.mpr ⟨h.1, h.2.2⟩; omega
      refine nw_iconstv X (-1) d_Top_commutator_28 (by decide) ?_
      exact hret _ _ _ _ _ _ d_Top_commutator_29 V ⟨rfl, fun h => absurd h hno, fun _ => rfl⟩
    · skip
      obtain ⟨hf1, i, hi, rfl⟩ := hbp1.mp (by omega)
      obtain ⟨-, j, hj, rfl⟩ := hbp2.mp (by omega)
      have hL := (hfx hf1).1
      refine nw_aload_n X d_Top_commutator_16 rfl (lv_at hl 0 rfl) ?_
      refine gf_Top_18 X V (hz (0, 0) rfl) d_Top_commutator_17 ?_
      refine nw_iload_n X d_Top_commutator_20 rfl (lv_at hl 1 rfl) ?_
      refine nw_iload_n X d_Top_commutator_21 rfl (lv_at hl 2 rfl) ?_
      refine hw_calli X V (hz (1, 0) rfl) rfl rfl (cm_Col_commutatorOf l z σ hz hL i j hi hj) cs_Top_112 (by decide) rfl hl.1 rfl (Nat.le_of_ble_eq_true rfl) (by decide) d_Top_commutator_22 (fun r σ' H locs V hr => ?_)
      obtain ⟨hσ, rfl⟩ := hr
      rw [hσ] at V
      clear hσ
      have hB := V.1.2.2
      refine nw_goto X (tgt := 29) d_Top_commutator_25 (by decide) ?_
      exact hret _ _ _ _ _ _ d_Top_commutator_29 V ⟨rfl, fun _ => by rw [show el_v (nI i) = i from el_nv (by omega) hi, show el_v (nI j) = j from el_nv (by omega) hj], fun h => absurd ⟨hf1, ⟨i, hi, rfl⟩, j, hj, rfl⟩ h⟩
set_option maxHeartbeats 4000000 in
set_option maxRecDepth 20000 in
theorem cm_Top_order (l : Launch) (z : zz_Z) (σ : hw_M) (hz : ∀ k, zz_k (zz_n z) k → zz_O z k) (S : Nat → Nat → Prop) (hC : cs_ok z σ S) (x : Int32) : Met l y_Top_order (hw_c y_Top_order b_Top_order 2 (some .int)) (hw_r 3) (va_Pc [.ref (zz_A z (0, 0)), .int x] (zz_B z σ)) (va_Qi (fun r σ' => σ' = σ ∧ ((σ (0, 0) 6 = 1 ∧ el_i (zz_N z) x) → ∃ k, r = nI k ∧ gp_od (gr_p z σ) (el_v x) k) ∧ (¬ (σ (0, 0) 6 = 1 ∧ el_i (zz_N z) x) → r = -1)) (zz_B z) (zz_F z)) 0 0 (zz_F z) := by
  refine hw_meti (post := (fun r σ' => σ' = σ ∧ ((σ (0, 0) 6 = 1 ∧ el_i (zz_N z) x) → ∃ k, r = nI k ∧ gp_od (gr_p z σ) (el_v x) k) ∧ (¬ (σ (0, 0) 6 = 1 ∧ el_i (zz_N z) x) → r = -1))) (by decide) (Nat.le_of_ble_eq_true rfl) ?_
  intro p e s m args below meth c ls Q X hret V hl
  have hl : lv_has ls 2 [(0, .ref (zz_A z (0, 0))), (1, .int x)] := hl
  have hB := V.1.2.2
  obtain ⟨hS, hR, hf2, hes, hfx⟩ := id hC
  obtain ⟨hn7, hN, hn, hNe, hw, hsz, hln⟩ := id hS
  refine nw_aload_n X d_Top_order_0 rfl (lv_at hl 0 rfl) ?_
  refine nw_iload_n X d_Top_order_1 rfl (lv_at hl 1 rfl) ?_
  refine hw_calli X V (hz (0, 0) rfl) rfl rfl (cm_Top_isElement l z σ hz S hC x) cs_Top_91 (by decide) rfl hl.1 rfl (Nat.le_of_ble_eq_true rfl) (by decide) d_Top_order_2 (fun r σ' H locs V hr => ?_)
  obtain ⟨b, hb, rfl, hσ, hbp⟩ := hr
  rw [hσ] at V
  clear hσ
  have hB := V.1.2.2
  refine nw_if_eq X (tgt := 19) d_Top_order_5 (by decide) (by omega) (fun hc => ?_) (fun hc => ?_)
  · skip
    refine nw_iconstv X (-1) d_Top_order_19 (by decide) ?_
    exact hret _ _ _ _ _ _ d_Top_order_20 V ⟨rfl, fun h => absurd (hbp.mpr h) (by omega), fun _ => rfl⟩
  · skip
    obtain ⟨hf1, i, hi, rfl⟩ := hbp.mp (by omega)
    have hL := (hfx hf1).1
    refine nw_aload_n X d_Top_order_8 rfl (lv_at hl 0 rfl) ?_
    refine gf_Top_18 X V (hz (0, 0) rfl) d_Top_order_9 ?_
    refine nw_iload_n X d_Top_order_12 rfl (lv_at hl 1 rfl) ?_
    refine hw_calli X V (hz (1, 0) rfl) rfl rfl (cm_Col_orderOf l z σ hz hL i hi) cs_Top_98 (by decide) rfl hl.1 rfl (Nat.le_of_ble_eq_true rfl) (by decide) d_Top_order_13 (fun r σ' H locs V hr => ?_)
    obtain ⟨hσ, k, rfl, hod⟩ := hr
    rw [hσ] at V
    refine nw_goto X (tgt := 20) d_Top_order_16 (by decide) ?_
    exact hret _ _ _ _ _ _ d_Top_order_20 V ⟨rfl, fun _ => ⟨k, rfl, by rw [show el_v (nI i) = i from el_nv (by omega) hi]; exact hod⟩, fun h => absurd ⟨hf1, i, hi, rfl⟩ h⟩
