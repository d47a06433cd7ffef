/-! The reference: calls. By program (wip/whole/gen/mod2.py). -/
set_option maxHeartbeats 4000000 in
set_option maxRecDepth 20000 in
theorem cm_Mod_generator (l : Launch) (z : zz_Z) (σ : hw_M) (hz : ∀ k, zz_k (zz_n z) k → zz_O z k) (r9 w p9 : Nat → Nat) (c9 : Nat → Nat → Nat) (S : Nat → Nat → Prop) (hM : ms_ok z σ r9 w p9 c9 S) (x : Int32) : Met l y_Mod_generator (hw_c y_Mod_generator b_Mod_generator 2 (some .int)) (hw_r 1) (va_Pc [.ref (zz_A z (20, 0)), .int x] (zz_B z σ)) (va_Qi (fun r σ' => σ' = σ ∧ an_o (el_i (zz_n z) x) (w (el_v x)) r) (zz_B z) (zz_F z)) 0 0 (zz_F z) := by
  refine hw_meti (post := (fun r σ' => σ' = σ ∧ an_o (el_i (zz_n z) x) (w (el_v x)) r)) (by decide) (Nat.le_of_ble_eq_true rfl) ?_
  intro p e s m args below meth c ls Q X hret V hl
  have hl : lv_has ls 2 [(0, .ref (zz_A z (20, 0))), (1, .int x)] := hl
  have hB := V.1.2.2
  obtain ⟨hD, hR, hf2, hfx⟩ := id hM
  obtain ⟨hn7, hN, hn, hNe, h29, h30, h31⟩ := id hD
  obtain ⟨hw, hsz, hri, hcj⟩ := id hR
  refine nw_aload_n X d_Mod_generator_0 rfl (lv_at hl 0 rfl) ?_
  refine nw_iload_n X d_Mod_generator_1 rfl (lv_at hl 1 rfl) ?_
  refine hw_calli X V (hz (20, 0) rfl) rfl rfl (cm_Mod_isGenerator l z σ hz hD x) cs_Mod_51 (by decide) rfl hl.1 rfl (Nat.le_of_ble_eq_true rfl) (by decide) d_Mod_generator_2 (fun r σ' H locs V hr => ?_)
  obtain ⟨b, hb, rfl, hσ, hbp⟩ := hr
  rw [hσ] at V
  clear hσ
  have hB := V.1.2.2
  refine nw_if_eq X (tgt := 17) d_Mod_generator_5 (by decide) (by omega) (fun hc => ?_) (fun hc => ?_)
  · skip
    refine nw_iconstv X (-1) d_Mod_generator_17 (by decide) ?_
    exact hret _ _ _ _ _ _ d_Mod_generator_18 V ⟨rfl, fun h => absurd (hbp.mpr h) (by omega), fun _ => rfl⟩
  · skip
    obtain ⟨j, hj, rfl⟩ := hbp.mp (by omega)
    refine nw_aload_n X d_Mod_generator_8 rfl (lv_at hl 0 rfl) ?_
    refine gf_Mod_13 X V (hz (20, 0) rfl) d_Mod_generator_9 ?_
    refine nw_iload_n X d_Mod_generator_12 rfl (lv_at hl 1 rfl) ?_
    refine hw_iald X V (hz (22, 0) rfl) 0 rfl rfl (by omega) (by decide) d_Mod_generator_13 ?_
    refine nw_goto X (tgt := 18) d_Mod_generator_14 (by decide) ?_
    exact hret _ _ _ _ _ _ d_Mod_generator_18 V ⟨rfl, fun _ => by rw [show el_v (nI j) = j from el_nv (by omega) hj, (hri j hj).2.1], fun h => absurd ⟨j, hj, rfl⟩ h⟩
set_option maxHeartbeats 4000000 in
set_option maxRecDepth 20000 in
theorem cm_Mod_power (l : Launch) (z : zz_Z) (σ : hw_M) (hz : ∀ k, zz_k (zz_n z) k → zz_O z k) (r9 w p9 : Nat → Nat) (c9 : Nat → Nat → Nat) (S : Nat → Nat → Prop) (hM : ms_ok z σ r9 w p9 c9 S) (x y : Int32) : Met l y_Mod_power (hw_c y_Mod_power b_Mod_power 3 (some .boolean)) (hw_r 1) (va_Pc [.ref (zz_A z (20, 0)), .int x, .int y] (zz_B z σ)) (va_Qi (fun r σ' => ∃ b, b < 2 ∧ r = nI b ∧ (fun b σ' => b = cn_n (sp_pw (σ (20, 0) 6) (zz_n z) w x y) 1 0 ∧ ms_ok z σ' r9 w (sp_pw1 (σ (20, 0) 6) (zz_n z) w p9 x y) c9 S ∧ ∀ u : hw_P, u ≠ (23, 0) → σ' u = σ u) b σ') (zz_B z) (zz_F z)) 0 0 (zz_F z) := by
  refine hw_metz (post := (fun b σ' => b = cn_n (sp_pw (σ (20, 0) 6) (zz_n z) w x y) 1 0 ∧ ms_ok z σ' r9 w (sp_pw1 (σ (20, 0) 6) (zz_n z) w p9 x y) c9 S ∧ ∀ u : hw_P, u ≠ (23, 0) → σ' u = σ u)) (by decide) (Nat.le_of_ble_eq_true rfl) ?_
  intro p e s m args below meth c ls Q X hret V hl
  have hl : lv_has ls 3 [(0, .ref (zz_A z (20, 0))), (1, .int x), (2, .int y)] := hl
  have hB := V.1.2.2
  obtain ⟨hD, hR, hf2, hfx⟩ := id hM
  obtain ⟨hn7, hN, hn, hNe, h29, h30, h31⟩ := id hD
  obtain ⟨hw, hsz, hri, hcj⟩ := id hR
  refine nw_aload_n X d_Mod_power_0 rfl (lv_at hl 0 rfl) ?_
  refine gf_Mod_55 X V (hz (20, 0) rfl) d_Mod_power_1 ?_
  refine nw_if_ne X (tgt := 29) d_Mod_power_4 (by decide) (by omega) (fun hc => ?_) (fun hc => ?_)
  · skip
    have hno : ¬ sp_pw (σ (20, 0) 6) (zz_n z) w x y := fun h => h.1 (by omega)
    refine nw_iconst X 0 d_Mod_power_29 (by decide) ?_
    exact hret 0 _ _ _ _ _ d_Mod_power_30 V (by decide) ⟨(cn_f hno).symm, by rw [← pw_no hno]; exact hM, fun _ _ => rfl⟩
  · skip
    have hf0 := hc
    refine nw_aload_n X d_Mod_power_7 rfl (lv_at hl 0 rfl) ?_
    refine nw_iload_n X d_Mod_power_8 rfl (lv_at hl 1 rfl) ?_
    refine hw_calli X V (hz (20, 0) rfl) rfl rfl (cm_Mod_isGenerator l z σ hz hD x) cs_Mod_51 (by decide) rfl hl.1 rfl (Nat.le_of_ble_eq_true rfl) (by decide) d_Mod_power_9 (fun r σ' H locs V hr => ?_)
    obtain ⟨b1, hb1, rfl, hσ, hbp1⟩ := hr
    rw [hσ] at V
    clear hσ
    have hB := V.1.2.2
    refine nw_if_eq X (tgt := 29) d_Mod_power_12 (by decide) (by omega) (fun hc1 => ?_) (fun hc1 => ?_)
    · skip
      have hno : ¬ sp_pw (σ (20, 0) 6) (zz_n z) w x y := fun ⟨_, j, v, h1, h2, _⟩ => by have := hbp1.mpr ⟨j, h1, h2⟩; omega
      refine nw_iconst X 0 d_Mod_power_29 (by decide) ?_
      exact hret 0 _ _ _ _ _ d_Mod_power_30 V (by decide) ⟨(cn_f hno).symm, by rw [← pw_no hno]; exact hM, fun _ _ => rfl⟩
    · skip
      obtain ⟨j, hj, rfl⟩ := hbp1.mp (by omega)
      have hu : ∀ i, i < zz_n z → nI j = nI i → j = i := fun i hi q => (nI_eq (by omega) (by omega)).mp q
      have ew := (hri j hj).2.1
      refine nw_iload_n X d_Mod_power_15 rfl (lv_at hl 2 rfl) ?_
      refine lv_if_lt (tgt := 29) X.1.1 X.1.2.1 d_Mod_power_16 (by decide) (fun hc2 => ?_) (fun h0 => ?_)
      · skip
        have hno : ¬ sp_pw (σ (20, 0) 6) (zz_n z) w (nI j) y := fun ⟨_, i, v, h1, h2, h3, h4⟩ => by
          rw [h4] at hc2
          have := hB (22, 0) i
          rw [(hri i h1).2.1] at this
          exact nI_pos (by omega) hc2
        refine nw_iconst X 0 d_Mod_power_29 (by decide) ?_
        exact hret 0 _ _ _ _ _ d_Mod_power_30 V (by decide) ⟨(cn_f hno).symm, by rw [← pw_no hno]; exact hM, fun _ _ => rfl⟩
      · skip
        refine nw_iload_n X d_Mod_power_19 rfl (lv_at hl 2 rfl) ?_
        refine nw_aload_n X d_Mod_power_20 rfl (lv_at hl 0 rfl) ?_
        refine gf_Mod_13 X V (hz (20, 0) rfl) d_Mod_power_21 ?_
        refine nw_iload_n X d_Mod_power_24 rfl (lv_at hl 1 rfl) ?_
        refine hw_iald X V (hz (22, 0) rfl) 0 rfl rfl (by omega) (by decide) d_Mod_power_25 ?_
        rw [ew]
        refine lv_icmp_lt (tgt := 31) X.1.1 X.1.2.1 d_Mod_power_26 (by decide) (fun hc3 => ?_) (fun hc3 => ?_)
        · skip
          have hwb : w j < 2147483648 := by have := hB (22, 0) j; omega
          obtain ⟨v, hv, rfl⟩ : ∃ v, v < w j ∧ y = nI v := by
            rcases pk_ix y (n := w j) hwb with h | h | h
            · exact absurd h h0
            · exact absurd hc3 (Int32.not_lt.mpr h)
            · exact h
          have hy : sp_pw (σ (20, 0) 6) (zz_n z) w (nI j) (nI v) := ⟨by omega, j, v, hj, rfl, hv, rfl⟩
          refine nw_aload_n X d_Mod_power_31 rfl (lv_at hl 0 rfl) ?_
          refine gf_Mod_16 X V (hz (20, 0) rfl) d_Mod_power_32 ?_
          refine nw_iload_n X d_Mod_power_35 rfl (lv_at hl 1 rfl) ?_
          refine nw_iload_n X d_Mod_power_36 rfl (lv_at hl 2 rfl) ?_
          refine hw_iast X V (hz (23, 0) rfl) 0 (fun _ => rfl) rfl (by omega) (by decide) (by omega) d_Mod_power_37 (fun H locs V => ?_)
          refine nw_iconst X 1 d_Mod_power_38 (by decide) ?_
          exact hret 1 _ _ _ _ _ d_Mod_power_39 V (by decide) ⟨(cn_t hy).symm, ms_pow hM hf0 hj hv hwb hy, fun u hu => hw_up_k _ _ _ hu⟩
        · skip
          have hno : ¬ sp_pw (σ (20, 0) 6) (zz_n z) w (nI j) y := fun ⟨_, i, v, h1, h2, h3, h4⟩ => by
            have e := hu i h1 h2
            subst e
            rw [h4] at hc3
            have := hB (22, 0) j
            exact hc3 (nI_lt h3 (by omega))
          refine nw_iconst X 0 d_Mod_power_29 (by decide) ?_
          exact hret 0 _ _ _ _ _ d_Mod_power_30 V (by decide) ⟨(cn_f hno).symm, by rw [← pw_no hno]; exact hM, fun _ _ => rfl⟩
set_option maxHeartbeats 4000000 in
set_option maxRecDepth 20000 in
theorem cm_Mod_conjugate (l : Launch) (z : zz_Z) (σ : hw_M) (hz : ∀ k, zz_k (zz_n z) k → zz_O z k) (r9 w p9 : Nat → Nat) (c9 : Nat → Nat → Nat) (S : Nat → Nat → Prop) (hM : ms_ok z σ r9 w p9 c9 S) (x y t : Int32) : Met l y_Mod_conjugate (hw_c y_Mod_conjugate b_Mod_conjugate 4 (some .boolean)) (hw_r 1) (va_Pc [.ref (zz_A z (20, 0)), .int x, .int y, .int t] (zz_B z σ)) (va_Qi (fun r σ' => ∃ b, b < 2 ∧ r = nI b ∧ (fun b σ' => b = cn_n (sp_cg (σ (20, 0) 6) (zz_n z) w x y t) 1 0 ∧ ms_ok z σ' r9 w p9 (sp_cg1 (σ (20, 0) 6) (zz_n z) w c9 x y t) S ∧ ∀ u : hw_P, u ≠ (24, 0) → σ' u = σ u) b σ') (zz_B z) (zz_F z)) 0 0 (zz_F z) := by
  refine hw_metz (post := (fun b σ' => b = cn_n (sp_cg (σ (20, 0) 6) (zz_n z) w x y t) 1 0 ∧ ms_ok z σ' r9 w p9 (sp_cg1 (σ (20, 0) 6) (zz_n z) w c9 x y t) S ∧ ∀ u : hw_P, u ≠ (24, 0) → σ' u = σ u)) (by decide) (Nat.le_of_ble_eq_true rfl) ?_
  intro p e s m args below meth c ls Q X hret V hl
  have hl : lv_has ls 4 [(0, .ref (zz_A z (20, 0))), (1, .int x), (2, .int y), (3, .int t)] := hl
  have hB := V.1.2.2
  obtain ⟨hD, hR, hf2, hfx⟩ := id hM
  obtain ⟨hn7, hN, hn, hNe, h29, h30, h31⟩ := id hD
  obtain ⟨hw, hsz, hri, hcj⟩ := id hR
  refine nw_aload_n X d_Mod_conjugate_0 rfl (lv_at hl 0 rfl) ?_
  refine gf_Mod_55 X V (hz (20, 0) rfl) d_Mod_conjugate_1 ?_
  refine nw_if_ne X (tgt := 42) d_Mod_conjugate_4 (by decide) (by omega) (fun hc => ?_) (fun hc => ?_)
  · skip
    have hno : ¬ sp_cg (σ (20, 0) 6) (zz_n z) w x y t := fun h => h.1 (by omega)
    refine nw_iconst X 0 d_Mod_conjugate_42 (by decide) ?_
    exact hret 0 _ _ _ _ _ d_Mod_conjugate_43 V (by decide) ⟨(cn_f hno).symm, by rw [← cg_no hno]; exact hM, fun _ _ => rfl⟩
  · skip
    have hf0 := hc
    refine nw_aload_n X d_Mod_conjugate_7 rfl (lv_at hl 0 rfl) ?_
    refine nw_iload_n X d_Mod_conjugate_8 rfl (lv_at hl 1 rfl) ?_
    refine hw_calli X V (hz (20, 0) rfl) rfl rfl (cm_Mod_isGenerator l z σ hz hD x) cs_Mod_51 (by decide) rfl hl.1 rfl (Nat.le_of_ble_eq_true rfl) (by decide) d_Mod_conjugate_9 (fun r σ' H locs V hr => ?_)
    obtain ⟨b1, hb1, rfl, hσ, hbp1⟩ := hr
    rw [hσ] at V
    clear hσ
    have hB := V.1.2.2
    refine nw_if_eq X (tgt := 42) d_Mod_conjugate_12 (by decide) (by omega) (fun hc1 => ?_) (fun hc1 => ?_)
    · skip
      have hno : ¬ sp_cg (σ (20, 0) 6) (zz_n z) w x y t := fun ⟨_, i, j, v, h1, h2, h3, _⟩ => by have := hbp1.mpr ⟨i, by omega, h3⟩; omega
      refine nw_iconst X 0 d_Mod_conjugate_42 (by decide) ?_
      exact hret 0 _ _ _ _ _ d_Mod_conjugate_43 V (by decide) ⟨(cn_f hno).symm, by rw [← cg_no hno]; exact hM, fun _ _ => rfl⟩
    · skip
      refine nw_aload_n X d_Mod_conjugate_15 rfl (lv_at hl 0 rfl) ?_
      refine nw_iload_n X d_Mod_conjugate_16 rfl (lv_at hl 2 rfl) ?_
      refine hw_calli X V (hz (20, 0) rfl) rfl rfl (cm_Mod_isGenerator l z σ hz hD y) cs_Mod_51 (by decide) rfl hl.1 rfl (Nat.le_of_ble_eq_true rfl) (by decide) d_Mod_conjugate_17 (fun r σ' H locs V hr => ?_)
      obtain ⟨b2, hb2, rfl, hσ, hbp2⟩ := hr
      rw [hσ] at V
      clear hσ
      have hB := V.1.2.2
      refine nw_if_eq X (tgt := 42) d_Mod_conjugate_20 (by decide) (by omega) (fun hc2 => ?_) (fun hc2 => ?_)
      · skip
        have hno : ¬ sp_cg (σ (20, 0) 6) (zz_n z) w x y t := fun ⟨_, i, j, v, h1, h2, h3, h4, _⟩ => by have := hbp2.mpr ⟨j, h2, h4⟩; omega
        refine nw_iconst X 0 d_Mod_conjugate_42 (by decide) ?_
        exact hret 0 _ _ _ _ _ d_Mod_conjugate_43 V (by decide) ⟨(cn_f hno).symm, by rw [← cg_no hno]; exact hM, fun _ _ => rfl⟩
      · skip
        obtain ⟨i, hi, rfl⟩ := hbp1.mp (by omega)
        obtain ⟨j, hj, rfl⟩ := hbp2.mp (by omega)
        have hu : ∀ i9, i9 < zz_n z → nI i = nI i9 → i = i9 := fun i9 h9 q => (nI_eq (by omega) (by omega)).mp q
        have hu2 : ∀ i9, i9 < zz_n z → nI j = nI i9 → j = i9 := fun i9 h9 q => (nI_eq (by omega) (by omega)).mp q
        have ew := (hri i hi).2.1
        refine nw_iload_n X d_Mod_conjugate_23 rfl (lv_at hl 1 rfl) ?_
        refine nw_iload_n X d_Mod_conjugate_24 rfl (lv_at hl 2 rfl) ?_
        refine nw_icmp_ge X (tgt := 42) d_Mod_conjugate_25 (by decide) (by omega) (by omega) (fun hc3 => ?_) (fun hij => ?_)
        · skip
          have hno : ¬ sp_cg (σ (20, 0) 6) (zz_n z) w (nI i) (nI j) t := fun ⟨_, i9, j9, v, h1, h2, h3, h4, _⟩ => by have e := hu i9 (by omega) h3; have e2 := hu2 j9 h2 h4; omega
          refine nw_iconst X 0 d_Mod_conjugate_42 (by decide) ?_
          exact hret 0 _ _ _ _ _ d_Mod_conjugate_43 V (by decide) ⟨(cn_f hno).symm, by rw [← cg_no hno]; exact hM, fun _ _ => rfl⟩
        · skip
          refine nw_iload_n X d_Mod_conjugate_28 rfl (lv_at hl 3 rfl) ?_
          refine lv_if_lt (tgt := 42) X.1.1 X.1.2.1 d_Mod_conjugate_29 (by decide) (fun hc4 => ?_) (fun h0 => ?_)
          · skip
            have hno : ¬ sp_cg (σ (20, 0) 6) (zz_n z) w (nI i) (nI j) t := fun ⟨_, i9, j9, v, h1, h2, h3, h4, h5, h6⟩ => by
              rw [h6] at hc4
              have := hB (22, 0) i9
              rw [(hri i9 (by omega)).2.1] at this
              exact nI_pos (by omega) hc4
            refine nw_iconst X 0 d_Mod_conjugate_42 (by decide) ?_
            exact hret 0 _ _ _ _ _ d_Mod_conjugate_43 V (by decide) ⟨(cn_f hno).symm, by rw [← cg_no hno]; exact hM, fun _ _ => rfl⟩
          · skip
            refine nw_iload_n X d_Mod_conjugate_32 rfl (lv_at hl 3 rfl) ?_
            refine nw_aload_n X d_Mod_conjugate_33 rfl (lv_at hl 0 rfl) ?_
            refine gf_Mod_13 X V (hz (20, 0) rfl) d_Mod_conjugate_34 ?_
            refine nw_iload_n X d_Mod_conjugate_37 rfl (lv_at hl 1 rfl) ?_
            refine hw_iald X V (hz (22, 0) rfl) 0 rfl rfl (by omega) (by decide) d_Mod_conjugate_38 ?_
            rw [ew]
            refine lv_icmp_lt (tgt := 44) X.1.1 X.1.2.1 d_Mod_conjugate_39 (by decide) (fun hc5 => ?_) (fun hc5 => ?_)
            · skip
              have hwb : w i < 2147483648 := by have := hB (22, 0) i; omega
              obtain ⟨v, hv, rfl⟩ : ∃ v, v < w i ∧ t = nI v := by
                rcases pk_ix t (n := w i) hwb with h | h | h
                · exact absurd h h0
                · exact absurd hc5 (Int32.not_lt.mpr h)
                · exact h
              have hy : sp_cg (σ (20, 0) 6) (zz_n z) w (nI i) (nI j) (nI v) := ⟨by omega, i, j, v, hij, hj, rfl, rfl, hv, rfl⟩
              refine nw_aload_n X d_Mod_conjugate_44 rfl (lv_at hl 0 rfl) ?_
              refine gf_Mod_19 X V (hz (20, 0) rfl) d_Mod_conjugate_45 ?_
              refine nw_bipush X 7 d_Mod_conjugate_48 (by decide) ?_
              refine nw_iload_n X d_Mod_conjugate_50 rfl (lv_at hl 1 rfl) ?_
              refine nw_imul X d_Mod_conjugate_51 ?_
              refine nw_iload_n X d_Mod_conjugate_52 rfl (lv_at hl 2 rfl) ?_
              refine nw_iadd X d_Mod_conjugate_53 ?_
              refine nw_iload_n X d_Mod_conjugate_54 rfl (lv_at hl 3 rfl) ?_
              refine hw_iast X V (hz (24, 0) rfl) 0 (fun _ => rfl) rfl (by omega) (by decide) (by omega) d_Mod_conjugate_55 (fun H locs V => ?_)
              refine nw_iconst X 1 d_Mod_conjugate_56 (by decide) ?_
              exact hret 1 _ _ _ _ _ d_Mod_conjugate_57 V (by decide) ⟨(cn_t hy).symm, ms_cgj hM hf0 hij hj hv hwb hy, fun u hu => hw_up_k _ _ _ hu⟩
            · skip
              have hno : ¬ sp_cg (σ (20, 0) 6) (zz_n z) w (nI i) (nI j) t := fun ⟨_, i9, j9, v, h1, h2, h3, h4, h5, h6⟩ => by
                have e := hu i9 (by omega) h3
                subst e
                rw [h6] at hc5
                have := hB (22, 0) i
                exact hc5 (nI_lt h5 (by omega))
              refine nw_iconst X 0 d_Mod_conjugate_42 (by decide) ?_
              exact hret 0 _ _ _ _ _ d_Mod_conjugate_43 V (by decide) ⟨(cn_f hno).symm, by rw [← cg_no hno]; exact hM, fun _ _ => rfl⟩
set_option maxHeartbeats 4000000 in
set_option maxRecDepth 20000 in
theorem cm_Mod_release (l : Launch) (z : zz_Z) (σ : hw_M) (hz : ∀ k, zz_k (zz_n z) k → zz_O z k) (r9 w p9 : Nat → Nat) (c9 : Nat → Nat → Nat) (S : Nat → Nat → Prop) (hM : ms_ok z σ r9 w p9 c9 S) : Met l y_Mod_release (hw_c y_Mod_release b_Mod_release 1 none) (hw_r 0) (va_Pc [.ref (zz_A z (20, 0))] (zz_B z σ)) (va_Qv (fun σ' => ms_ok z σ' r9 w p9 c9 S ∧ σ' = hw_up σ (20, 0) 6 0) (zz_B z) (zz_F z)) 0 0 (zz_F z) := by
  refine hw_metv (post := (fun σ' => ms_ok z σ' r9 w p9 c9 S ∧ σ' = hw_up σ (20, 0) 6 0)) (by decide) (Nat.le_of_ble_eq_true rfl) ?_
  intro p e s m args below meth c ls Q X hret V hl
  have hl : lv_has ls 1 [(0, .ref (zz_A z (20, 0)))] := hl
  have hB := V.1.2.2
  obtain ⟨hD, hR, hf2, hfx⟩ := id hM
  obtain ⟨hn7, hN, hn, hNe, h29, h30, h31⟩ := id hD
  obtain ⟨hw, hsz, hri, hcj⟩ := id hR
  refine nw_aload_n X d_Mod_release_0 rfl (lv_at hl 0 rfl) ?_
  refine nw_iconst X 0 d_Mod_release_1 (by decide) ?_
  refine pf_Mod_55 X V (hz (20, 0) rfl) (by decide) d_Mod_release_2 (fun H locs V => ?_)
  exact hret _ _ _ _ _ d_Mod_release_5 V ⟨ms_rel hM, rfl⟩
set_option maxHeartbeats 4000000 in
set_option maxRecDepth 20000 in
theorem cm_Mod_fixed (l : Launch) (z : zz_Z) (σ : hw_M) (hz : ∀ k, zz_k (zz_n z) k → zz_O z k) (r9 w p9 : Nat → Nat) (c9 : Nat → Nat → Nat) (S : Nat → Nat → Prop) (hM : ms_ok z σ r9 w p9 c9 S) : Met l y_Mod_fixed (hw_c y_Mod_fixed b_Mod_fixed 1 (some .boolean)) (hw_r 0) (va_Pc [.ref (zz_A z (20, 0))] (zz_B z σ)) (va_Qi (fun r σ' => ∃ b, b < 2 ∧ r = nI b ∧ (fun b σ' => σ' = σ ∧ b = σ (20, 0) 6) b σ') (zz_B z) (zz_F z)) 0 0 (zz_F z) := by
  refine hw_metz (post := (fun b σ' => σ' = σ ∧ b = σ (20, 0) 6)) (by decide) (Nat.le_of_ble_eq_true rfl) ?_
  intro p e s m args below meth c ls Q X hret V hl
  have hl : lv_has ls 1 [(0, .ref (zz_A z (20, 0)))] := hl
  have hB := V.1.2.2
  obtain ⟨hD, hR, hf2, hfx⟩ := id hM
  obtain ⟨hn7, hN, hn, hNe, h29, h30, h31⟩ := id hD
  obtain ⟨hw, hsz, hri, hcj⟩ := id hR
  refine nw_aload_n X d_Mod_fixed_0 rfl (lv_at hl 0 rfl) ?_
  refine gf_Mod_55 X V (hz (20, 0) rfl) d_Mod_fixed_1 ?_
  exact hret _ _ _ _ _ _ d_Mod_fixed_4 V hf2 ⟨rfl, rfl⟩
set_option maxHeartbeats 4000000 in
set_option maxRecDepth 20000 in
theorem cm_Mod_by (l : Launch) (z : zz_Z) (σ : hw_M) (hz : ∀ k, zz_k (zz_n z) k → zz_O z k) (hD : md_ok z σ) (o : Nat → Nat → Nat) (hg : mg_ok z σ o) (a b : Nat) (ha : a < zz_N z) (hb : b < zz_N z) : Met l y_Mod_by (hw_c y_Mod_by b_Mod_by 3 (some .int)) (hw_r 1) (va_Pc [.ref (zz_A z (20, 0)), .int (nI a), .int (nI b)] (zz_B z σ)) (va_Qi (fun r σ' => σ' = σ ∧ r = nI (gp_cj (zz_N z) o a b)) (zz_B z) (zz_F z)) 0 0 (zz_F z) := by
  refine hw_meti (post := (fun r σ' => σ' = σ ∧ r = nI (gp_cj (zz_N z) o a b))) (by decide) (Nat.le_of_ble_eq_true rfl) ?_
  intro p e s m args below meth c ls Q X hret V hl
  have hl : lv_has ls 3 [(0, .ref (zz_A z (20, 0))), (1, .int (nI a)), (2, .int (nI b))] := hl
  have hB := V.1.2.2
  obtain ⟨hn7, hN, hn, hNe, h29, h30, h31⟩ := id hD
  have g := hg.1
  refine nw_aload_n X d_Mod_by_0 rfl (lv_at hl 0 rfl) ?_
  refine nw_aload_n X d_Mod_by_1 rfl (lv_at hl 0 rfl) ?_
  refine nw_aload_n X d_Mod_by_2 rfl (lv_at hl 0 rfl) ?_
  refine gf_Mod_31 X V (hz (20, 0) rfl) d_Mod_by_3 ?_
  refine nw_iload_n X d_Mod_by_6 rfl (lv_at hl 2 rfl) ?_
  refine hw_iald X V (hz (28, 0) rfl) 0 rfl rfl (by omega) (by decide) d_Mod_by_7 ?_
  rw [hg.2.2 b hb]
  refine nw_iload_n X d_Mod_by_8 rfl (lv_at hl 1 rfl) ?_
  refine hw_calli X V (hz (20, 0) rfl) rfl rfl (cm_Mod_of l z σ hz _ _ (by have := (g.ivl hb); omega) (by have := ha; omega)) cs_Mod_59 (by decide) rfl hl.1 rfl (Nat.le_of_ble_eq_true rfl) (by decide) d_Mod_by_9 (fun r σ' H locs V hr => ?_)
  obtain ⟨hσ, rfl⟩ := hr
  rw [hσ] at V
  clear hσ
  have hB := V.1.2.2
  rw [hg.2.1 _ _ (g.ivl hb) ha]
  refine nw_iload_n X d_Mod_by_12 rfl (lv_at hl 2 rfl) ?_
  refine hw_calli X V (hz (20, 0) rfl) rfl rfl (cm_Mod_of l z σ hz _ _ (by have := (g.lt (g.ivl hb) ha); omega) (by have := hb; omega)) cs_Mod_59 (by decide) rfl hl.1 rfl (Nat.le_of_ble_eq_true rfl) (by decide) d_Mod_by_13 (fun r σ' H locs V hr => ?_)
  obtain ⟨hσ, rfl⟩ := hr
  rw [hσ] at V
  clear hσ
  have hB := V.1.2.2
  rw [hg.2.1 _ _ (g.lt (g.ivl hb) ha) hb]
  exact hret _ _ _ _ _ _ d_Mod_by_16 V ⟨rfl, rfl⟩
set_option maxHeartbeats 4000000 in
set_option maxRecDepth 20000 in
theorem cm_Mod_bracket (l : Launch) (z : zz_Z) (σ : hw_M) (hz : ∀ k, zz_k (zz_n z) k → zz_O z k) (hD : md_ok z σ) (o : Nat → Nat → Nat) (hg : mg_ok z σ o) (a b : Nat) (ha : a < zz_N z) (hb : b < zz_N z) : Met l y_Mod_bracket (hw_c y_Mod_bracket b_Mod_bracket 3 (some .int)) (hw_r 2) (va_Pc [.ref (zz_A z (20, 0)), .int (nI a), .int (nI b)] (zz_B z σ)) (va_Qi (fun r σ' => σ' = σ ∧ r = nI (gp_cm (zz_N z) o a b)) (zz_B z) (zz_F z)) 0 0 (zz_F z) := by
  refine hw_meti (post := (fun r σ' => σ' = σ ∧ r = nI (gp_cm (zz_N z) o a b))) (by decide) (Nat.le_of_ble_eq_true rfl) ?_
  intro p e s m args below meth c ls Q X hret V hl
  have hl : lv_has ls 3 [(0, .ref (zz_A z (20, 0))), (1, .int (nI a)), (2, .int (nI b))] := hl
  have hB := V.1.2.2
  obtain ⟨hn7, hN, hn, hNe, h29, h30, h31⟩ := id hD
  have g := hg.1
  refine nw_aload_n X d_Mod_bracket_0 rfl (lv_at hl 0 rfl) ?_
  refine nw_aload_n X d_Mod_bracket_1 rfl (lv_at hl 0 rfl) ?_
  refine gf_Mod_31 X V (hz (20, 0) rfl) d_Mod_bracket_2 ?_
  refine nw_iload_n X d_Mod_bracket_5 rfl (lv_at hl 1 rfl) ?_
  refine hw_iald X V (hz (28, 0) rfl) 0 rfl rfl (by omega) (by decide) d_Mod_bracket_6 ?_
  rw [hg.2.2 a ha]
  refine nw_aload_n X d_Mod_bracket_7 rfl (lv_at hl 0 rfl) ?_
  refine nw_iload_n X d_Mod_bracket_8 rfl (lv_at hl 1 rfl) ?_
  refine nw_iload_n X d_Mod_bracket_9 rfl (lv_at hl 2 rfl) ?_
  refine hw_calli X V (hz (20, 0) rfl) rfl rfl (cm_Mod_by l z σ hz hD o hg a b ha hb) cs_Mod_88 (by decide) rfl hl.1 rfl (Nat.le_of_ble_eq_true rfl) (by decide) d_Mod_bracket_10 (fun r σ' H locs V hr => ?_)
  obtain ⟨hσ, rfl⟩ := hr
  rw [hσ] at V
  clear hσ
  have hB := V.1.2.2
  refine hw_calli X V (hz (20, 0) rfl) rfl rfl (cm_Mod_of l z σ hz _ _ (by have := (g.ivl ha); omega) (by have := (g.cjl ha hb); omega)) cs_Mod_59 (by decide) rfl hl.1 rfl (Nat.le_of_ble_eq_true rfl) (by decide) d_Mod_bracket_13 (fun r σ' H locs V hr => ?_)
  obtain ⟨hσ, rfl⟩ := hr
  rw [hσ] at V
  clear hσ
  have hB := V.1.2.2
  rw [hg.2.1 _ _ (g.ivl ha) (g.cjl ha hb)]
  exact hret _ _ _ _ _ _ d_Mod_bracket_16 V ⟨rfl, rfl⟩
set_option maxHeartbeats 4000000 in
set_option maxRecDepth 20000 in
theorem cm_Mod_product (l : Launch) (z : zz_Z) (σ : hw_M) (hz : ∀ k, zz_k (zz_n z) k → zz_O z k) (r9 w p9 : Nat → Nat) (c9 : Nat → Nat → Nat) (S : Nat → Nat → Prop) (hM : ms_ok z σ r9 w p9 c9 S) (x y : Int32) : Met l y_Mod_product (hw_c y_Mod_product b_Mod_product 3 (some .int)) (hw_r 1) (va_Pc [.ref (zz_A z (20, 0)), .int x, .int y] (zz_B z σ)) (va_Qi (fun r σ' => σ' = σ ∧ an_o (σ (20, 0) 6 = 1 ∧ el_i (zz_N z) x ∧ el_i (zz_N z) y) ((tw_op (zz_n z) r9 w p9 c9 (zz_n z)) (el_v x) (el_v y)) r) (zz_B z) (zz_F z)) 0 0 (zz_F z) := by
  refine hw_meti (post := (fun r σ' => σ' = σ ∧ an_o (σ (20, 0) 6 = 1 ∧ el_i (zz_N z) x ∧ el_i (zz_N z) y) ((tw_op (zz_n z) r9 w p9 c9 (zz_n z)) (el_v x) (el_v y)) r)) (by decide) (Nat.le_of_ble_eq_true rfl) ?_
  intro p e s m args below meth c ls Q X hret V hl
  have hl : lv_has ls 3 [(0, .ref (zz_A z (20, 0))), (1, .int x), (2, .int y)] := hl
  have hB := V.1.2.2
  obtain ⟨hD, hR, hf2, hfx⟩ := id hM
  obtain ⟨hn7, hN, hn, hNe, h29, h30, h31⟩ := id hD
  obtain ⟨hw, hsz, hri, hcj⟩ := id hR
  refine nw_aload_n X d_Mod_product_0 rfl (lv_at hl 0 rfl) ?_
  refine nw_iload_n X d_Mod_product_1 rfl (lv_at hl 1 rfl) ?_
  refine hw_calli X V (hz (20, 0) rfl) rfl rfl (cm_Mod_is l z σ hz hD hf2 x) cs_Mod_81 (by decide) rfl hl.1 rfl (Nat.le_of_ble_eq_true rfl) (by decide) d_Mod_product_2 (fun r σ' H locs V hr => ?_)
  obtain ⟨b1, hb1, rfl, hσ, hbp1⟩ := hr
  rw [hσ] at V
  clear hσ
  have hB := V.1.2.2
  refine nw_if_eq X (tgt := 25) d_Mod_product_5 (by decide) (by omega) (fun hc1 => ?_) (fun hc1 => ?_)
  · skip
    have hno : ¬ (σ (20, 0) 6 = 1 ∧ el_i (zz_N z) x ∧ el_i (zz_N z) y) := fun h => by have := hbp1.mpr ⟨h.1, h.2.1⟩; omega
    refine nw_iconstv X (-1) d_Mod_product_25 (by decide) ?_
    exact hret _ _ _ _ _ _ d_Mod_product_26 V ⟨rfl, fun h => absurd h hno, fun _ => rfl⟩
  · skip
    refine nw_aload_n X d_Mod_product_8 rfl (lv_at hl 0 rfl) ?_
    refine nw_iload_n X d_Mod_product_9 rfl (lv_at hl 2 rfl) ?_
    refine hw_calli X V (hz (20, 0) rfl) rfl rfl (cm_Mod_is l z σ hz hD hf2 y) cs_Mod_81 (by decide) rfl hl.1 rfl (Nat.le_of_ble_eq_true rfl) (by decide) d_Mod_product_10 (fun r σ' H locs V hr => ?_)
    obtain ⟨b2, hb2, rfl, hσ, hbp2⟩ := hr
    rw [hσ] at V
    clear hσ
    have hB := V.1.2.2
    refine nw_if_eq X (tgt := 25) d_Mod_product_13 (by decide) (by omega) (fun hc2 => ?_) (fun hc2 => ?_)
    · skip
      have hno : ¬ (σ (20, 0) 6 = 1 ∧ el_i (zz_N z) x ∧ el_i (zz_N z) y) := fun h => by have := hbp2.mpr ⟨h.1, h.2.2⟩; omega
      refine nw_iconstv X (-1) d_Mod_product_25 (by decide) ?_
      exact hret _ _ _ _ _ _ d_Mod_product_26 V ⟨rfl, fun h => absurd h hno, fun _ => rfl⟩
    · skip
      obtain ⟨hf1, i, hi, rfl⟩ := hbp1.mp (by omega)
      obtain ⟨-, j, hj, rfl⟩ := hbp2.mp (by omega)
      obtain ⟨hk, hg, hpl⟩ := hfx hf1
      have g := hg.1
      refine nw_aload_n X d_Mod_product_16 rfl (lv_at hl 0 rfl) ?_
      refine nw_iload_n X d_Mod_product_17 rfl (lv_at hl 1 rfl) ?_
      refine nw_iload_n X d_Mod_product_18 rfl (lv_at hl 2 rfl) ?_
      refine hw_calli X V (hz (20, 0) rfl) rfl rfl (cm_Mod_of l z σ hz _ _ (by have := hi; omega) (by have := hj; omega)) cs_Mod_59 (by decide) rfl hl.1 rfl (Nat.le_of_ble_eq_true rfl) (by decide) d_Mod_product_19 (fun r σ' H locs V hr => ?_)
      obtain ⟨hσ, rfl⟩ := hr
      rw [hσ] at V
      clear hσ
      have hB := V.1.2.2
      rw [hg.2.1 _ _ hi hj]
      refine nw_goto X (tgt := 26) d_Mod_product_22 (by decide) ?_
      exact hret _ _ _ _ _ _ d_Mod_product_26 V ⟨rfl, fun _ => by rw [show el_v (nI i) = i from el_nv (by omega) hi, show el_v (nI j) = j from el_nv (by omega) hj], fun h => absurd ⟨hf1, ⟨i, hi, rfl⟩, j, hj, rfl⟩ h⟩
set_option maxHeartbeats 4000000 in
set_option maxRecDepth 20000 in
theorem cm_Mod_conjugated (l : Launch) (z : zz_Z) (σ : hw_M) (hz : ∀ k, zz_k (zz_n z) k → zz_O z k) (r9 w p9 : Nat → Nat) (c9 : Nat → Nat → Nat) (S : Nat → Nat → Prop) (hM : ms_ok z σ r9 w p9 c9 S) (x y : Int32) : Met l y_Mod_conjugated (hw_c y_Mod_conjugated b_Mod_conjugated 3 (some .int)) (hw_r 2) (va_Pc [.ref (zz_A z (20, 0)), .int x, .int y] (zz_B z σ)) (va_Qi (fun r σ' => σ' = σ ∧ an_o (σ (20, 0) 6 = 1 ∧ el_i (zz_N z) x ∧ el_i (zz_N z) y) (gp_cj (zz_N z) (tw_op (zz_n z) r9 w p9 c9 (zz_n z)) (el_v x) (el_v y)) r) (zz_B z) (zz_F z)) 0 0 (zz_F z) := by
  refine hw_meti (post := (fun r σ' => σ' = σ ∧ an_o (σ (20, 0) 6 = 1 ∧ el_i (zz_N z) x ∧ el_i (zz_N z) y) (gp_cj (zz_N z) (tw_op (zz_n z) r9 w p9 c9 (zz_n z)) (el_v x) (el_v y)) r)) (by decide) (Nat.le_of_ble_eq_true rfl) ?_
  intro p e s m args below meth c ls Q X hret V hl
  have hl : lv_has ls 3 [(0, .ref (zz_A z (20, 0))), (1, .int x), (2, .int y)] := hl
  have hB := V.1.2.2
  obtain ⟨hD, hR, hf2, hfx⟩ := id hM
  obtain ⟨hn7, hN, hn, hNe, h29, h30, h31⟩ := id hD
  obtain ⟨hw, hsz, hri, hcj⟩ := id hR
  refine nw_aload_n X d_Mod_conjugated_0 rfl (lv_at hl 0 rfl) ?_
  refine nw_iload_n X d_Mod_conjugated_1 rfl (lv_at hl 1 rfl) ?_
  refine hw_calli X V (hz (20, 0) rfl) rfl rfl (cm_Mod_is l z σ hz hD hf2 x) cs_Mod_81 (by decide) rfl hl.1 rfl (Nat.le_of_ble_eq_true rfl) (by decide) d_Mod_conjugated_2 (fun r σ' H locs V hr => ?_)
  obtain ⟨b1, hb1, rfl, hσ, hbp1⟩ := hr
  rw [hσ] at V
  clear hσ
  have hB := V.1.2.2
  refine nw_if_eq X (tgt := 25) d_Mod_conjugated_5 (by decide) (by omega) (fun hc1 => ?_) (fun hc1 => ?_)
  · skip
    have hno : ¬ (σ (20, 0) 6 = 1 ∧ el_i (zz_N z) x ∧ el_i (zz_N z) y) := fun h => by have := hbp1.mpr ⟨h.1, h.2.1⟩; omega
    refine nw_iconstv X (-1) d_Mod_conjugated_25 (by decide) ?_
    exact hret _ _ _ _ _ _ d_Mod_conjugated_26 V ⟨rfl, fun h => absurd h hno, fun _ => rfl⟩
  · skip
    refine nw_aload_n X d_Mod_conjugated_8 rfl (lv_at hl 0 rfl) ?_
    refine nw_iload_n X d_Mod_conjugated_9 rfl (lv_at hl 2 rfl) ?_
    refine hw_calli X V (hz (20, 0) rfl) rfl rfl (cm_Mod_is l z σ hz hD hf2 y) cs_Mod_81 (by decide) rfl hl.1 rfl (Nat.le_of_ble_eq_true rfl) (by decide) d_Mod_conjugated_10 (fun r σ' H locs V hr => ?_)
    obtain ⟨b2, hb2, rfl, hσ, hbp2⟩ := hr
    rw [hσ] at V
    clear hσ
    have hB := V.1.2.2
    refine nw_if_eq X (tgt := 25) d_Mod_conjugated_13 (by decide) (by omega) (fun hc2 => ?_) (fun hc2 => ?_)
    · skip
      have hno : ¬ (σ (20, 0) 6 = 1 ∧ el_i (zz_N z) x ∧ el_i (zz_N z) y) := fun h => by have := hbp2.mpr ⟨h.1, h.2.2⟩; omega
      refine nw_iconstv X (-1) d_Mod_conjugated_25 (by decide) ?_
      exact hret _ _ _ _ _ _ d_Mod_conjugated_26 V ⟨rfl, fun h => absurd h hno, fun _ => rfl⟩
    · skip
      obtain ⟨hf1, i, hi, rfl⟩ := hbp1.mp (by omega)
      obtain ⟨-, j, hj, rfl⟩ := hbp2.mp (by omega)
      obtain ⟨hk, hg, hpl⟩ := hfx hf1
      have g := hg.1
      refine nw_aload_n X d_Mod_conjugated_16 rfl (lv_at hl 0 rfl) ?_
      refine nw_iload_n X d_Mod_conjugated_17 rfl (lv_at hl 1 rfl) ?_
      refine nw_iload_n X d_Mod_conjugated_18 rfl (lv_at hl 2 rfl) ?_
      refine hw_calli X V (hz (20, 0) rfl) rfl rfl (cm_Mod_by l z σ hz hD _ hg i j hi hj) cs_Mod_88 (by decide) rfl hl.1 rfl (Nat.le_of_ble_eq_true rfl) (by decide) d_Mod_conjugated_19 (fun r σ' H locs V hr => ?_)
      obtain ⟨hσ, rfl⟩ := hr
      rw [hσ] at V
      clear hσ
      have hB := V.1.2.2
      refine nw_goto X (tgt := 26) d_Mod_conjugated_22 (by decide) ?_
      exact hret _ _ _ _ _ _ d_Mod_conjugated_26 V ⟨rfl, fun _ => by rw [show el_v (nI i) = i from el_nv (by omega) hi, show el_v (nI j) = j from el_nv (by omega) hj], fun h => absurd ⟨hf1, ⟨i, hi, rfl⟩, j, hj, rfl⟩ h⟩
set_option maxHeartbeats 4000000 in
set_option maxRecDepth 20000 in
theorem cm_Mod_commutator (l : Launch) (z : zz_Z) (σ : hw_M) (hz : ∀ k, zz_k (zz_n z) k → zz_O z k) (r9 w p9 : Nat → Nat) (c9 : Nat → Nat → Nat) (S : Nat → Nat → Prop) (hM : ms_ok z σ r9 w p9 c9 S) (x y : Int32) : Met l y_Mod_commutator (hw_c y_Mod_commutator b_Mod_commutator 3 (some .int)) (hw_r 3) (va_Pc [.ref (zz_A z (20, 0)), .int x, .int y] (zz_B z σ)) (va_Qi (fun r σ' => σ' = σ ∧ an_o (σ (20, 0) 6 = 1 ∧ el_i (zz_N z) x ∧ el_i (zz_N z) y) (gp_cm (zz_N z) (tw_op (zz_n z) r9 w p9 c9 (zz_n z)) (el_v x) (el_v y)) r) (zz_B z) (zz_F z)) 0 0 (zz_F z) := by
  refine hw_meti (post := (fun r σ' => σ' = σ ∧ an_o (σ (20, 0) 6 = 1 ∧ el_i (zz_N z) x ∧ el_i (zz_N z) y) (gp_cm (zz_N z) (tw_op (zz_n z) r9 w p9 c9 (zz_n z)) (el_v x) (el_v y)) r)) (by decide) (Nat.le_of_ble_eq_true rfl) ?_
  intro p e s m args below meth c ls Q X hret V hl
  have hl : lv_has ls 3 [(0, .ref (zz_A z (20, 0))), (1, .int x), (2, .int y)] := hl
  have hB := V.1.2.2
  obtain ⟨hD, hR, hf2, hfx⟩ := id hM
  obtain ⟨hn7, hN, hn, hNe, h29, h30, h31⟩ := id hD
  obtain ⟨hw, hsz, hri, hcj⟩ := id hR
  refine nw_aload_n X d_Mod_commutator_0 rfl (lv_at hl 0 rfl) ?_
  refine nw_iload_n X d_Mod_commutator_1 rfl (lv_at hl 1 rfl) ?_
  refine hw_calli X V (hz (20, 0) rfl) rfl rfl (cm_Mod_is l z σ hz hD hf2 x) cs_Mod_81 (by decide) rfl hl.1 rfl (Nat.le_of_ble_eq_true rfl) (by decide) d_Mod_commutator_2 (fun r σ' H locs V hr => ?_)
  obtain ⟨b1, hb1, rfl, hσ, hbp1⟩ := hr
  rw [hσ] at V
  clear hσ
  have hB := V.1.2.2
  refine nw_if_eq X (tgt := 25) d_Mod_commutator_5 (by decide) (by omega) (fun hc1 => ?_) (fun hc1 => ?_)
  · skip
    have hno : ¬ (σ (20, 0) 6 = 1 ∧ el_i (zz_N z) x ∧ el_i (zz_N z) y) := fun h => by have := hbp1.mpr ⟨h.1, h.2.1⟩; omega
    refine nw_iconstv X (-1) d_Mod_commutator_25 (by decide) ?_
    exact hret _ _ _ _ _ _ d_Mod_commutator_26 V ⟨rfl, fun h => absurd h hno, fun _ => rfl⟩
  · skip
    refine nw_aload_n X d_Mod_commutator_8 rfl (lv_at hl 0 rfl) ?_
    refine nw_iload_n X d_Mod_commutator_9 rfl (lv_at hl 2 rfl) ?_
    refine hw_calli X V (hz (20, 0) rfl) rfl rfl (cm_Mod_is l z σ hz hD hf2 y) cs_Mod_81 (by decide) rfl hl.1 rfl (Nat.le_of_ble_eq_true rfl) (by decide) d_Mod_commutator_10 (fun r σ' H locs V hr => ?_)
    obtain ⟨b2, hb2, rfl, hσ, hbp2⟩ := hr
    rw [hσ] at V
    clear hσ
    have hB := V.1.2.2
    refine nw_if_eq X (tgt := 25) d_Mod_commutator_13 (by decide) (by omega) (fun hc2 => ?_) (fun hc2 => ?_)
    · skip
      have hno : ¬ (σ (20, 0) 6 = 1 ∧ el_i (zz_N z) x ∧ el_i (zz_N z) y) := fun h => by have := hbp2.mpr ⟨h.1, h.2.2⟩; omega
      refine nw_iconstv X (-1) d_Mod_commutator_25 (by decide) ?_
      exact hret _ _ _ _ _ _ d_Mod_commutator_26 V ⟨rfl, fun h => absurd h hno, fun _ => rfl⟩
    · skip
      obtain ⟨hf1, i, hi, rfl⟩ := hbp1.mp (by omega)
      obtain ⟨-, j, hj, rfl⟩ := hbp2.mp (by omega)
      obtain ⟨hk, hg, hpl⟩ := hfx hf1
      have g := hg.1
      refine nw_aload_n X d_Mod_commutator_16 rfl (lv_at hl 0 rfl) ?_
      refine nw_iload_n X d_Mod_commutator_17 rfl (lv_at hl 1 rfl) ?_
      refine nw_iload_n X d_Mod_commutator_18 rfl (lv_at hl 2 rfl) ?_
      refine hw_calli X V (hz (20, 0) rfl) rfl rfl (cm_Mod_bracket l z σ hz hD _ hg i j hi hj) cs_Mod_91 (by decide) rfl hl.1 rfl (Nat.le_of_ble_eq_true rfl) (by decide) d_Mod_commutator_19 (fun r σ' H locs V hr => ?_)
      obtain ⟨hσ, rfl⟩ := hr
      rw [hσ] at V
      clear hσ
      have hB := V.1.2.2
      refine nw_goto X (tgt := 26) d_Mod_commutator_22 (by decide) ?_
      exact hret _ _ _ _ _ _ d_Mod_commutator_26 V ⟨rfl, fun _ => by rw [show el_v (nI i) = i from el_nv (by omega) hi, show el_v (nI j) = j from el_nv (by omega) hj], fun h => absurd ⟨hf1, ⟨i, hi, rfl⟩, j, hj, rfl⟩ h⟩
set_option maxHeartbeats 4000000 in
set_option maxRecDepth 20000 in
theorem cm_Mod_order (l : Launch) (z : zz_Z) (σ : hw_M) (hz : ∀ k, zz_k (zz_n z) k → zz_O z k) (r9 w p9 : Nat → Nat) (c9 : Nat → Nat → Nat) (S : Nat → Nat → Prop) (hM : ms_ok z σ r9 w p9 c9 S) (x : Int32) : Met l y_Mod_order (hw_c y_Mod_order b_Mod_order 4 (some .int)) (hw_r 1) (va_Pc [.ref (zz_A z (20, 0)), .int x] (zz_B z σ)) (va_Qi (fun r σ' => σ' = σ ∧ ((σ (20, 0) 6 = 1 ∧ el_i (zz_N z) x) → ∃ k, r = nI k ∧ gp_od (tw_op (zz_n z) r9 w p9 c9 (zz_n z)) (el_v x) k) ∧ (¬ (σ (20, 0) 6 = 1 ∧ el_i (zz_N z) x) → r = -1)) (zz_B z) (zz_F z)) 0 0 (zz_F z) := by
  refine hw_meti (post := (fun r σ' => σ' = σ ∧ ((σ (20, 0) 6 = 1 ∧ el_i (zz_N z) x) → ∃ k, r = nI k ∧ gp_od (tw_op (zz_n z) r9 w p9 c9 (zz_n z)) (el_v x) k) ∧ (¬ (σ (20, 0) 6 = 1 ∧ el_i (zz_N z) x) → r = -1))) (by decide) (Nat.le_of_ble_eq_true rfl) ?_
  intro p e s m args below meth c ls Q X hret V hl
  have hl : lv_has ls 4 [(0, .ref (zz_A z (20, 0))), (1, .int x)] := hl
  have hB := V.1.2.2
  obtain ⟨hD, hR, hf2, hfx⟩ := id hM
  obtain ⟨hn7, hN, hn, hNe, h29, h30, h31⟩ := id hD
  obtain ⟨hw, hsz, hri, hcj⟩ := id hR
  refine nw_aload_n X d_Mod_order_0 rfl (lv_at hl 0 rfl) ?_
  refine nw_iload_n X d_Mod_order_1 rfl (lv_at hl 1 rfl) ?_
  refine hw_calli X V (hz (20, 0) rfl) rfl rfl (cm_Mod_is l z σ hz hD hf2 x) cs_Mod_81 (by decide) rfl hl.1 rfl (Nat.le_of_ble_eq_true rfl) (by decide) d_Mod_order_2 (fun r σ' H locs V hr => ?_)
  obtain ⟨b1, hb1, rfl, hσ, hbp1⟩ := hr
  rw [hσ] at V
  clear hσ
  have hB := V.1.2.2
  refine nw_if_ne X (tgt := 10) d_Mod_order_5 (by decide) (by omega) (fun hc1 => ?_) (fun hc1 => ?_)
  · skip
    obtain ⟨hf1, a, ha, rfl⟩ := hbp1.mp (by omega)
    obtain ⟨hk, hg, hpl⟩ := hfx hf1
    have g := hg.1
    have ev : el_v (nI a) = a := el_nv (by omega) ha
    refine nw_iconst X 1 d_Mod_order_10 (by decide) ?_
    refine nw_istore_n X (lv' := [(2, _), (0, _), (1, _)]) d_Mod_order_11 rfl hl (by decide) rfl (fun ls hl => ?_)
    refine nw_iload_n X d_Mod_order_12 rfl (lv_at hl 2 rfl) ?_
    refine nw_istore_n X (lv' := [(3, _), (2, _), (0, _), (1, _)]) d_Mod_order_13 rfl hl (by decide) rfl (fun ls hl => ?_)
    have LP14 : ∀ (d k word : Nat) (H : Heap) (locs : List Loc) (ls : Array Slot), 200 - k < d → (1 ≤ k) → (k ≤ 200) → (word = gp_pw (tw_op (zz_n z) r9 w p9 c9 (zz_n z)) a k) → (∀ j, 1 ≤ j → j < k → gp_pw (tw_op (zz_n z) r9 w p9 c9 (zz_n z)) a j ≠ 0) → zz_V z σ s.heap H locs →  lv_has ls 4 [(0, .ref (zz_A z (20, 0))), (1, .int (nI a)), (2, .int (nI k)), (3, .int (nI word))] →  W p l e (hw_r 1) s m args below meth c H locs 0 0 Q (F0 m 14 ls []) := by
      intro d
      induction d with
      | zero => intro k word H locs ls hd; exact absurd hd (Nat.not_lt_zero _)
      | succ d IH14 =>
        intro k word H locs ls hd hk1 hk2 hwd hno V hl
        have hB := V.1.2.2
        have hwl : word < zz_N z := by rw [hwd]; exact g.pwl ha k
        refine nw_iload_n X d_Mod_order_14 rfl (lv_at hl 3 rfl) ?_
        refine nw_if_eq X (tgt := 38) d_Mod_order_15 (by decide) (by omega) (fun hc => ?_) (fun hc => ?_)
        · skip
          refine nw_iload_n X d_Mod_order_38 rfl (lv_at hl 2 rfl) ?_
          exact hret _ _ _ _ _ _ d_Mod_order_39 V ⟨rfl, fun _ => ⟨k, rfl, by rw [ev]; exact ⟨hk1, by rw [← hwd]; exact hc, hno⟩⟩, fun h => absurd ⟨hf1, a, ha, rfl⟩ h⟩
        · skip
          refine nw_iload_n X d_Mod_order_18 rfl (lv_at hl 2 rfl) ?_
          refine nw_sipush X 200 d_Mod_order_19 (by decide) ?_
          refine nw_icmp_ge X (tgt := 38) d_Mod_order_22 (by decide) (by omega) (by decide) (fun hc2 => ?_) (fun hc2 => ?_)
          · skip
            exfalso
            obtain ⟨j, j1, j2, j3⟩ := g.per ha
            exact hno j j1 (by omega) j3
          · skip
            refine nw_aload_n X d_Mod_order_25 rfl (lv_at hl 0 rfl) ?_
            refine nw_iload_n X d_Mod_order_26 rfl (lv_at hl 3 rfl) ?_
            refine nw_iload_n X d_Mod_order_27 rfl (lv_at hl 1 rfl) ?_
            refine hw_calli X V (hz (20, 0) rfl) rfl rfl (cm_Mod_of l z σ hz _ _ (by have := hwl; omega) (by have := ha; omega)) cs_Mod_59 (by decide) rfl hl.1 rfl (Nat.le_of_ble_eq_true rfl) (by decide) d_Mod_order_28 (fun r σ' H locs V hr => ?_)
            obtain ⟨hσ, rfl⟩ := hr
            rw [hσ] at V
            clear hσ
            have hB := V.1.2.2
            rw [hg.2.1 _ _ hwl ha]
            refine nw_istore_n X (lv' := [(3, _), (0, _), (1, _), (2, _)]) d_Mod_order_31 rfl hl (by decide) rfl (fun ls hl => ?_)
            refine nw_iinc X (lv' := [(2, _), (3, _), (0, _), (1, _)]) (k := 3) 1 d_Mod_order_32 hl rfl (by decide) (by decide) rfl (fun ls hl => ?_)
            refine nw_goto X (tgt := 14) d_Mod_order_35 (by decide) ?_
            exact IH14 (k + 1) _ _ _ _ (by omega) (by omega) hc2 (by rw [hwd]; rfl) (fun j h1 h2 => by by_cases e : j = k; rw [e, ← hwd]; exact hc; exact hno j h1 (by omega)) V (lv_sub hl [2, 3, 0, 1] rfl)
    exact LP14 (200 + 1) 1 a _ _ _ (by omega) (Nat.le_refl _) (by decide) (gp_pw1 g ha).symm (fun j h1 h2 => by omega) V (lv_sub hl [2, 3, 1, 0] rfl)
  · skip
    have hno : ¬ (σ (20, 0) 6 = 1 ∧ el_i (zz_N z) x) := fun h => by have := hbp1.mpr h; omega
    refine nw_iconstv X (-1) d_Mod_order_8 (by decide) ?_
    exact hret _ _ _ _ _ _ d_Mod_order_9 V ⟨rfl, fun h => absurd h hno, fun _ => rfl⟩
set_option maxHeartbeats 4000000 in
set_option maxRecDepth 20000 in
theorem cm_Mod_count (l : Launch) (z : zz_Z) (σ : hw_M) (hz : ∀ k, zz_k (zz_n z) k → zz_O z k) (r9 w p9 : Nat → Nat) (c9 : Nat → Nat → Nat) (S : Nat → Nat → Prop) (hM : ms_ok z σ r9 w p9 c9 S) (x : Int32) : Met l y_Mod_count (hw_c y_Mod_count b_Mod_count 2 (some .int)) (hw_r 1) (va_Pc [.ref (zz_A z (20, 0)), .int x] (zz_B z σ)) (va_Qi (fun r σ' => ms_ok z σ' r9 w p9 c9 S ∧ mq_q σ σ' ∧ an_o (σ (20, 0) 6 = 1 ∧ el_i 4 x) (gp_cd (zz_N z) (S (el_v x))) r) (zz_B z) (zz_F z)) 0 0 (zz_F z) := by
  refine hw_meti (post := (fun r σ' => ms_ok z σ' r9 w p9 c9 S ∧ mq_q σ σ' ∧ an_o (σ (20, 0) 6 = 1 ∧ el_i 4 x) (gp_cd (zz_N z) (S (el_v x))) r)) (by decide) (Nat.le_of_ble_eq_true rfl) ?_
  intro p e s m args below meth c ls Q X hret V hl
  have hl : lv_has ls 2 [(0, .ref (zz_A z (20, 0))), (1, .int x)] := hl
  have hB := V.1.2.2
  obtain ⟨hD, hR, hf2, hfx⟩ := id hM
  obtain ⟨hn7, hN, hn, hNe, h29, h30, h31⟩ := id hD
  obtain ⟨hw, hsz, hri, hcj⟩ := id hR
  refine nw_aload_n X d_Mod_count_0 rfl (lv_at hl 0 rfl) ?_
  refine nw_iload_n X d_Mod_count_1 rfl (lv_at hl 1 rfl) ?_
  refine hw_calli X V (hz (20, 0) rfl) rfl rfl (cm_Mod_isPlace l z σ hz hD hf2 x) cs_Mod_101 (by decide) rfl hl.1 rfl (Nat.le_of_ble_eq_true rfl) (by decide) d_Mod_count_2 (fun r σ' H locs V hr => ?_)
  obtain ⟨b1, hb1, rfl, hσ, hbp1⟩ := hr
  rw [hσ] at V
  clear hσ
  have hB := V.1.2.2
  refine nw_if_ne X (tgt := 10) d_Mod_count_5 (by decide) (by omega) (fun hc => ?_) (fun hc => ?_)
  · skip
    obtain ⟨hf1, s9, hs, rfl⟩ := hbp1.mp (by omega)
    obtain ⟨hk, hg, hpl⟩ := hfx hf1
    have g := hg.1
    have ev : el_v (nI s9) = s9 := el_nv (by omega) hs
    refine nw_aload_n X d_Mod_count_10 rfl (lv_at hl 0 rfl) ?_
    refine nw_iload_n X d_Mod_count_11 rfl (lv_at hl 1 rfl) ?_
    refine hw_callv X V (hz (20, 0) rfl) rfl rfl (cm_Mod_take l z σ hz hD s9 hs) cs_Mod_104 (by decide) rfl hl.1 rfl (Nat.le_of_ble_eq_true rfl) (by decide) d_Mod_count_12 (fun σ1 H locs V hr => ?_)
    obtain ⟨f1, b1, v1⟩ := hr
    have hB := V.1.2.2
    have hD1 := md_mv hD f1 b1
    refine nw_aload_n X d_Mod_count_15 rfl (lv_at hl 0 rfl) ?_
    refine hw_calli X V (hz (20, 0) rfl) rfl rfl (cm_Mod_worked l z σ1 hz hD1) cs_Mod_94 (by decide) rfl hl.1 rfl (Nat.le_of_ble_eq_true rfl) (by decide) d_Mod_count_16 (fun r σ' H locs V hr => ?_)
    obtain ⟨hσ, rfl⟩ := hr
    rw [hσ] at V
    clear hσ
    have hB := V.1.2.2
    exact hret _ _ _ _ _ _ d_Mod_count_19 V ⟨ms_set hM (mq_30 f1) ⟨hD1.2.2.2.2.1, hD1.2.2.2.2.2.1, hD1.2.2.2.2.2.2⟩ (fun hf s h1 a h2 => by rw [f1 (29, 0) (hw_ne (by decide))]; exact hpl s h1 a h2), mq_30 f1, fun _ => by rw [ev]; exact congrArg nI (gp_cd_congr (fun a h2 => by rw [v1 a h2]; exact hpl s9 hs a h2)), fun h => absurd ⟨hf1, s9, hs, rfl⟩ h⟩
  · skip
    have hno : ¬ (σ (20, 0) 6 = 1 ∧ el_i 4 x) := fun h => by have := hbp1.mpr h; omega
    refine nw_iconstv X (-1) d_Mod_count_8 (by decide) ?_
    exact hret _ _ _ _ _ _ d_Mod_count_9 V ⟨hM, mq_q.rf, fun h => absurd h hno, fun _ => rfl⟩
set_option maxHeartbeats 4000000 in
set_option maxRecDepth 20000 in
theorem cm_Mod_has (l : Launch) (z : zz_Z) (σ : hw_M) (hz : ∀ k, zz_k (zz_n z) k → zz_O z k) (r9 w p9 : Nat → Nat) (c9 : Nat → Nat → Nat) (S : Nat → Nat → Prop) (hM : ms_ok z σ r9 w p9 c9 S) (x y : Int32) : Met l y_Mod_has (hw_c y_Mod_has b_Mod_has 3 (some .boolean)) (hw_r 1) (va_Pc [.ref (zz_A z (20, 0)), .int x, .int y] (zz_B z σ)) (va_Qi (fun r σ' => ∃ b, b < 2 ∧ r = nI b ∧ (fun b σ' => σ' = σ ∧ b = cn_n ((σ (20, 0) 6 = 1 ∧ el_i 4 x ∧ el_i (zz_N z) y) ∧ S (el_v x) (el_v y)) 1 0) b σ') (zz_B z) (zz_F z)) 0 0 (zz_F z) := by
  refine hw_metz (post := (fun b σ' => σ' = σ ∧ b = cn_n ((σ (20, 0) 6 = 1 ∧ el_i 4 x ∧ el_i (zz_N z) y) ∧ S (el_v x) (el_v y)) 1 0)) (by decide) (Nat.le_of_ble_eq_true rfl) ?_
  intro p e s m args below meth c ls Q X hret V hl
  have hl : lv_has ls 3 [(0, .ref (zz_A z (20, 0))), (1, .int x), (2, .int y)] := hl
  have hB := V.1.2.2
  obtain ⟨hD, hR, hf2, hfx⟩ := id hM
  obtain ⟨hn7, hN, hn, hNe, h29, h30, h31⟩ := id hD
  obtain ⟨hw, hsz, hri, hcj⟩ := id hR
  refine nw_aload_n X d_Mod_has_0 rfl (lv_at hl 0 rfl) ?_
  refine nw_iload_n X d_Mod_has_1 rfl (lv_at hl 1 rfl) ?_
  refine hw_calli X V (hz (20, 0) rfl) rfl rfl (cm_Mod_isPlace l z σ hz hD hf2 x) cs_Mod_101 (by decide) rfl hl.1 rfl (Nat.le_of_ble_eq_true rfl) (by decide) d_Mod_has_2 (fun r σ' H locs V hr => ?_)
  obtain ⟨b1, hb1, rfl, hσ, hbp1⟩ := hr
  rw [hσ] at V
  clear hσ
  have hB := V.1.2.2
  refine nw_if_eq X (tgt := 35) d_Mod_has_5 (by decide) (by omega) (fun hc1 => ?_) (fun hc1 => ?_)
  · skip
    have hno : ¬ (σ (20, 0) 6 = 1 ∧ el_i 4 x ∧ el_i (zz_N z) y) := fun h => by have := hbp1.mpr ⟨h.1, h.2.1⟩; omega
    have hno2 : ¬ ((σ (20, 0) 6 = 1 ∧ el_i 4 x ∧ el_i (zz_N z) y) ∧ S (el_v x) (el_v y)) := fun h => hno h.1
    refine nw_iconst X 0 d_Mod_has_35 (by decide) ?_
    exact hret 0 _ _ _ _ _ d_Mod_has_36 V (by decide) ⟨rfl, (cn_f hno2).symm⟩
  · skip
    refine nw_aload_n X d_Mod_has_8 rfl (lv_at hl 0 rfl) ?_
    refine nw_iload_n X d_Mod_has_9 rfl (lv_at hl 2 rfl) ?_
    refine hw_calli X V (hz (20, 0) rfl) rfl rfl (cm_Mod_is l z σ hz hD hf2 y) cs_Mod_81 (by decide) rfl hl.1 rfl (Nat.le_of_ble_eq_true rfl) (by decide) d_Mod_has_10 (fun r σ' H locs V hr => ?_)
    obtain ⟨b2, hb2, rfl, hσ, hbp2⟩ := hr
    rw [hσ] at V
    clear hσ
    have hB := V.1.2.2
    refine nw_if_eq X (tgt := 35) d_Mod_has_13 (by decide) (by omega) (fun hc2 => ?_) (fun hc2 => ?_)
    · skip
      have hno : ¬ (σ (20, 0) 6 = 1 ∧ el_i 4 x ∧ el_i (zz_N z) y) := fun h => by have := hbp2.mpr ⟨h.1, h.2.2⟩; omega
      have hno2 : ¬ ((σ (20, 0) 6 = 1 ∧ el_i 4 x ∧ el_i (zz_N z) y) ∧ S (el_v x) (el_v y)) := fun h => hno h.1
      refine nw_iconst X 0 d_Mod_has_35 (by decide) ?_
      exact hret 0 _ _ _ _ _ d_Mod_has_36 V (by decide) ⟨rfl, (cn_f hno2).symm⟩
    · skip
      obtain ⟨hf1, s9, hs, rfl⟩ := hbp1.mp (by omega)
      obtain ⟨hk, hg, hpl⟩ := hfx hf1
      have g := hg.1
      have ev : el_v (nI s9) = s9 := el_nv (by omega) hs
      obtain ⟨-, a, ha, rfl⟩ := hbp2.mp (by omega)
      have ev2 : el_v (nI a) = a := el_nv (by omega) ha
      refine nw_aload_n X d_Mod_has_16 rfl (lv_at hl 0 rfl) ?_
      refine gf_Mod_34 X V (hz (20, 0) rfl) d_Mod_has_17 ?_
      refine nw_sipush X 128 d_Mod_has_20 (by decide) ?_
      refine nw_iload_n X d_Mod_has_23 rfl (lv_at hl 1 rfl) ?_
      refine nw_imul X d_Mod_has_24 ?_
      refine nw_iload_n X d_Mod_has_25 rfl (lv_at hl 2 rfl) ?_
      refine nw_iadd X d_Mod_has_26 ?_
      refine hw_zald X V (hz (29, 0) rfl) 1 rfl rfl (by omega) (by decide) d_Mod_has_27 ?_
      refine nw_if_eq X (tgt := 35) d_Mod_has_28 (by decide) (hB _ _) (fun hc3 => ?_) (fun hc3 => ?_)
      · skip
        have hno2 : ¬ ((σ (20, 0) 6 = 1 ∧ el_i 4 (nI s9) ∧ el_i (zz_N z) (nI a)) ∧ S (el_v (nI s9)) (el_v (nI a))) := fun h => by
          have h2 := h.2
          rw [ev, ev2] at h2
          have := (hpl s9 hs a ha).mpr h2
          omega
        refine nw_iconst X 0 d_Mod_has_35 (by decide) ?_
        exact hret 0 _ _ _ _ _ d_Mod_has_36 V (by decide) ⟨rfl, (cn_f hno2).symm⟩
      · skip
        refine nw_iconst X 1 d_Mod_has_31 (by decide) ?_
        refine nw_goto X (tgt := 36) d_Mod_has_32 (by decide) ?_
        exact hret 1 _ _ _ _ _ d_Mod_has_36 V (by decide) ⟨rfl, (cn_t ⟨⟨hf1, ⟨s9, hs, rfl⟩, a, ha, rfl⟩, by rw [ev, ev2]; exact (hpl s9 hs a ha).mp (by have := h29 (128 * s9 + a); omega)⟩).symm⟩
set_option maxHeartbeats 4000000 in
set_option maxRecDepth 20000 in
theorem cm_Mod_clear (l : Launch) (z : zz_Z) (σ : hw_M) (hz : ∀ k, zz_k (zz_n z) k → zz_O z k) (r9 w p9 : Nat → Nat) (c9 : Nat → Nat → Nat) (S : Nat → Nat → Prop) (hM : ms_ok z σ r9 w p9 c9 S) (x : Int32) : Met l y_Mod_clear (hw_c y_Mod_clear b_Mod_clear 3 (some .int)) (hw_r 1) (va_Pc [.ref (zz_A z (20, 0)), .int x] (zz_B z σ)) (va_Qi (fun r σ' => ms_ok z σ' r9 w p9 c9 (sa_t (σ (20, 0) 6 = 1 ∧ el_i 4 x) (el_v x) (fun v => v = 0) S) ∧ mq_q σ σ' ∧ an_o (σ (20, 0) 6 = 1 ∧ el_i 4 x) 1 r) (zz_B z) (zz_F z)) 0 0 (zz_F z) := by
  refine hw_meti (post := (fun r σ' => ms_ok z σ' r9 w p9 c9 (sa_t (σ (20, 0) 6 = 1 ∧ el_i 4 x) (el_v x) (fun v => v = 0) S) ∧ mq_q σ σ' ∧ an_o (σ (20, 0) 6 = 1 ∧ el_i 4 x) 1 r)) (by decide) (Nat.le_of_ble_eq_true rfl) ?_
  intro p e s m args below meth c ls Q X hret V hl
  have hl : lv_has ls 3 [(0, .ref (zz_A z (20, 0))), (1, .int x)] := hl
  have hB := V.1.2.2
  obtain ⟨hD, hR, hf2, hfx⟩ := id hM
  obtain ⟨hn7, hN, hn, hNe, h29, h30, h31⟩ := id hD
  obtain ⟨hw, hsz, hri, hcj⟩ := id hR
  refine nw_aload_n X d_Mod_clear_0 rfl (lv_at hl 0 rfl) ?_
  refine nw_iload_n X d_Mod_clear_1 rfl (lv_at hl 1 rfl) ?_
  refine hw_calli X V (hz (20, 0) rfl) rfl rfl (cm_Mod_isPlace l z σ hz hD hf2 x) cs_Mod_101 (by decide) rfl hl.1 rfl (Nat.le_of_ble_eq_true rfl) (by decide) d_Mod_clear_2 (fun r σ' H locs V hr => ?_)
  obtain ⟨b1, hb1, rfl, hσ, hbp1⟩ := hr
  rw [hσ] at V
  clear hσ
  have hB := V.1.2.2
  refine nw_if_ne X (tgt := 10) d_Mod_clear_5 (by decide) (by omega) (fun hc => ?_) (fun hc => ?_)
  · skip
    obtain ⟨hf1, s9, hs, rfl⟩ := hbp1.mp (by omega)
    obtain ⟨hk, hg, hpl⟩ := hfx hf1
    have g := hg.1
    have ev : el_v (nI s9) = s9 := el_nv (by omega) hs
    refine nw_iconst X 0 d_Mod_clear_10 (by decide) ?_
    refine nw_istore_n X (lv' := [(2, _), (0, _), (1, _)]) d_Mod_clear_11 rfl hl (by decide) rfl (fun ls hl => ?_)
    have LP12 : ∀ (d a : Nat) (σ1 : hw_M) (H : Heap) (locs : List Loc) (ls : Array Slot), zz_N z - a < d → (a ≤ zz_N z) → (∀ u : hw_P, u ≠ (29, 0) → σ1 u = σ u) → (∀ a, σ1 (29, 0) a < 2) → (∀ y, y < a → (σ1 (29, 0) (128 * s9 + y) = 1 ↔ y = 0)) → (∀ i, ¬ (128 * s9 ≤ i ∧ i < 128 * s9 + zz_N z) → σ1 (29, 0) i = σ (29, 0) i) → zz_V z σ1 s.heap H locs →  lv_has ls 3 [(0, .ref (zz_A z (20, 0))), (1, .int (nI s9)), (2, .int (nI a))] →  W p l e (hw_r 1) s m args below meth c H locs 0 0 Q (F0 m 12 ls []) := by
      intro d
      induction d with
      | zero => intro a σ1 H locs ls hd; exact absurd hd (Nat.not_lt_zero _)
      | succ d IH12 =>
        intro a σ1 H locs ls hd haN hfr hb2 hv hout V hl
        have hB := V.1.2.2
        have hNe1 : σ1 (20, 0) 1 = zz_N z := by rw [hfr (20, 0) (hw_ne (by decide))]; exact hNe
        refine nw_iload_n X d_Mod_clear_12 rfl (lv_at hl 2 rfl) ?_
        refine nw_aload_n X d_Mod_clear_13 rfl (lv_at hl 0 rfl) ?_
        refine gf_Mod_48 X V (hz (20, 0) rfl) d_Mod_clear_14 ?_
        rw [hNe1]
        refine nw_icmp_ge X (tgt := 47) d_Mod_clear_17 (by decide) (by first | assumption | omega) (by first | assumption | omega) (fun ha => ?_) (fun ha => ?_)
        · skip
          refine nw_iconst X 1 d_Mod_clear_47 (by decide) ?_
          exact hret _ _ _ _ _ _ d_Mod_clear_48 V ⟨by rw [ev]; exact ms_put hM hf1 hs ⟨hf1, s9, hs, rfl⟩ (fun u h1 _ _ => hfr u h1) ⟨hb2, by rw [hfr (30, 0) (hw_ne (by decide))]; exact h30, by rw [hfr (31, 0) (hw_ne (by decide))]; exact h31⟩ (fun a9 h9 => hv a9 (by omega)) hout, fun u h1 _ _ => hfr u h1, fun _ => rfl, fun h => absurd ⟨hf1, s9, hs, rfl⟩ h⟩
        · skip
          refine nw_aload_n X d_Mod_clear_20 rfl (lv_at hl 0 rfl) ?_
          refine gf_Mod_34 X V (hz (20, 0) rfl) d_Mod_clear_21 ?_
          refine nw_sipush X 128 d_Mod_clear_24 (by decide) ?_
          refine nw_iload_n X d_Mod_clear_27 rfl (lv_at hl 1 rfl) ?_
          refine nw_imul X d_Mod_clear_28 ?_
          refine nw_iload_n X d_Mod_clear_29 rfl (lv_at hl 2 rfl) ?_
          refine nw_iadd X d_Mod_clear_30 ?_
          refine nw_iload_n X d_Mod_clear_31 rfl (lv_at hl 2 rfl) ?_
          refine nw_if_ne X (tgt := 39) d_Mod_clear_32 (by decide) (by omega) (fun hz0 => ?_) (fun hz0 => ?_)
          · skip
            have hx9 : 0 < 2 := by decide
            have hx10 : 0 = 1 ↔ a = 0 := ⟨fun q => absurd q (by decide), fun q => absurd q hz0⟩
            refine nw_iconst X 0 d_Mod_clear_39 (by decide) ?_
            refine hw_zast X V (hz (29, 0) rfl) 1 (fun _ => rfl) rfl (by omega) (by decide) hx9 d_Mod_clear_40 (fun H locs V => ?_)
            refine nw_iinc X (lv' := [(2, _), (0, _), (1, _)]) (k := 2) 1 d_Mod_clear_41 hl rfl (by decide) (by decide) rfl (fun ls hl => ?_)
            refine nw_goto X (tgt := 12) d_Mod_clear_44 (by decide) ?_
            exact IH12 (a + 1) _ _ _ _ (by omega) ha (fun u hu => (hw_up_k _ _ _ hu).trans (hfr u hu)) (md_up2 hb2 hx9) (fun y hy => by rw [hw_up_v]; by_cases e : y = a; rw [if_pos (by omega), e]; exact hx10; rw [if_neg (by omega)]; exact hv y (by omega)) (fun i hi => by rw [hw_up_i _ _ _ (by omega)]; exact hout i hi) V (lv_sub hl [1, 2, 0] rfl)
          · skip
            have hx9 : 1 < 2 := by decide
            have hx10 : 1 = 1 ↔ a = 0 := ⟨fun _ => hz0, fun _ => rfl⟩
            refine nw_iconst X 1 d_Mod_clear_35 (by decide) ?_
            refine nw_goto X (tgt := 40) d_Mod_clear_36 (by decide) ?_
            refine hw_zast X V (hz (29, 0) rfl) 1 (fun _ => rfl) rfl (by omega) (by decide) hx9 d_Mod_clear_40 (fun H locs V => ?_)
            refine nw_iinc X (lv' := [(2, _), (0, _), (1, _)]) (k := 2) 1 d_Mod_clear_41 hl rfl (by decide) (by decide) rfl (fun ls hl => ?_)
            refine nw_goto X (tgt := 12) d_Mod_clear_44 (by decide) ?_
            exact IH12 (a + 1) _ _ _ _ (by omega) ha (fun u hu => (hw_up_k _ _ _ hu).trans (hfr u hu)) (md_up2 hb2 hx9) (fun y hy => by rw [hw_up_v]; by_cases e : y = a; rw [if_pos (by omega), e]; exact hx10; rw [if_neg (by omega)]; exact hv y (by omega)) (fun i hi => by rw [hw_up_i _ _ _ (by omega)]; exact hout i hi) V (lv_sub hl [1, 2, 0] rfl)
    exact LP12 (zz_N z + 1) 0 _ _ _ _ (by omega) (Nat.zero_le _) (fun _ _ => rfl) h29 (fun y hy => absurd hy (Nat.not_lt_zero _)) (fun _ _ => rfl) V (lv_sub hl [1, 2, 0] rfl)
  · skip
    have hno : ¬ (σ (20, 0) 6 = 1 ∧ el_i 4 x) := fun h => by have := hbp1.mpr h; omega
    refine nw_iconstv X (-1) d_Mod_clear_8 (by decide) ?_
    exact hret _ _ _ _ _ _ d_Mod_clear_9 V ⟨ms_no hM hno, mq_q.rf, fun h => absurd h hno, fun _ => rfl⟩
set_option maxHeartbeats 4000000 in
set_option maxRecDepth 20000 in
theorem cm_Mod_join (l : Launch) (z : zz_Z) (σ : hw_M) (hz : ∀ k, zz_k (zz_n z) k → zz_O z k) (r9 w p9 : Nat → Nat) (c9 : Nat → Nat → Nat) (S : Nat → Nat → Prop) (hM : ms_ok z σ r9 w p9 c9 S) (hSl : ∀ s, s < 4 → ∀ v, S s v → v < zz_N z) (x y : Int32) : Met l y_Mod_join (hw_c y_Mod_join b_Mod_join 3 (some .int)) (hw_r 3) (va_Pc [.ref (zz_A z (20, 0)), .int x, .int y] (zz_B z σ)) (va_Qi (fun r σ' => ms_ok z σ' r9 w p9 c9 (sa_t (σ (20, 0) 6 = 1 ∧ el_i 4 x ∧ el_i (zz_N z) y) (el_v x) (sp_join (zz_N z) (tw_op (zz_n z) r9 w p9 c9 (zz_n z)) (S (el_v x)) (el_v y)) S) ∧ mq_q σ σ' ∧ an_o (σ (20, 0) 6 = 1 ∧ el_i 4 x ∧ el_i (zz_N z) y) (gp_cd (zz_N z) (sp_join (zz_N z) (tw_op (zz_n z) r9 w p9 c9 (zz_n z)) (S (el_v x)) (el_v y))) r) (zz_B z) (zz_F z)) 0 0 (zz_F z) := by
  refine hw_meti (post := (fun r σ' => ms_ok z σ' r9 w p9 c9 (sa_t (σ (20, 0) 6 = 1 ∧ el_i 4 x ∧ el_i (zz_N z) y) (el_v x) (sp_join (zz_N z) (tw_op (zz_n z) r9 w p9 c9 (zz_n z)) (S (el_v x)) (el_v y)) S) ∧ mq_q σ σ' ∧ an_o (σ (20, 0) 6 = 1 ∧ el_i 4 x ∧ el_i (zz_N z) y) (gp_cd (zz_N z) (sp_join (zz_N z) (tw_op (zz_n z) r9 w p9 c9 (zz_n z)) (S (el_v x)) (el_v y))) r)) (by decide) (Nat.le_of_ble_eq_true rfl) ?_
  intro p e s m args below meth c ls Q X hret V hl
  have hl : lv_has ls 3 [(0, .ref (zz_A z (20, 0))), (1, .int x), (2, .int y)] := hl
  have hB := V.1.2.2
  obtain ⟨hD, hR, hf2, hfx⟩ := id hM
  obtain ⟨hn7, hN, hn, hNe, h29, h30, h31⟩ := id hD
  obtain ⟨hw, hsz, hri, hcj⟩ := id hR
  refine nw_aload_n X d_Mod_join_0 rfl (lv_at hl 0 rfl) ?_
  refine nw_iload_n X d_Mod_join_1 rfl (lv_at hl 1 rfl) ?_
  refine hw_calli X V (hz (20, 0) rfl) rfl rfl (cm_Mod_isPlace l z σ hz hD hf2 x) cs_Mod_101 (by decide) rfl hl.1 rfl (Nat.le_of_ble_eq_true rfl) (by decide) d_Mod_join_2 (fun r σ' H locs V hr => ?_)
  obtain ⟨b1, hb1, rfl, hσ, hbp1⟩ := hr
  rw [hσ] at V
  clear hσ
  have hB := V.1.2.2
  refine nw_if_eq X (tgt := 16) d_Mod_join_5 (by decide) (by omega) (fun hc1 => ?_) (fun hc1 => ?_)
  · skip
    have hno : ¬ (σ (20, 0) 6 = 1 ∧ el_i 4 x ∧ el_i (zz_N z) y) := fun h => by have := hbp1.mpr ⟨h.1, h.2.1⟩; omega
    refine nw_iconstv X (-1) d_Mod_join_16 (by decide) ?_
    exact hret _ _ _ _ _ _ d_Mod_join_17 V ⟨ms_no hM hno, mq_q.rf, fun h => absurd h hno, fun _ => rfl⟩
  · skip
    refine nw_aload_n X d_Mod_join_8 rfl (lv_at hl 0 rfl) ?_
    refine nw_iload_n X d_Mod_join_9 rfl (lv_at hl 2 rfl) ?_
    refine hw_calli X V (hz (20, 0) rfl) rfl rfl (cm_Mod_is l z σ hz hD hf2 y) cs_Mod_81 (by decide) rfl hl.1 rfl (Nat.le_of_ble_eq_true rfl) (by decide) d_Mod_join_10 (fun r σ' H locs V hr => ?_)
    obtain ⟨b2, hb2, rfl, hσ, hbp2⟩ := hr
    rw [hσ] at V
    clear hσ
    have hB := V.1.2.2
    refine nw_if_ne X (tgt := 18) d_Mod_join_13 (by decide) (by omega) (fun hc2 => ?_) (fun hc2 => ?_)
    · skip
      obtain ⟨hf1, s9, hs, rfl⟩ := hbp1.mp (by omega)
      obtain ⟨hk, hg, hpl⟩ := hfx hf1
      have g := hg.1
      have ev : el_v (nI s9) = s9 := el_nv (by omega) hs
      obtain ⟨-, a, ha, rfl⟩ := hbp2.mp (by omega)
      have ev2 : el_v (nI a) = a := el_nv (by omega) ha
      refine nw_aload_n X d_Mod_join_18 rfl (lv_at hl 0 rfl) ?_
      refine nw_iload_n X d_Mod_join_19 rfl (lv_at hl 1 rfl) ?_
      refine hw_callv X V (hz (20, 0) rfl) rfl rfl (cm_Mod_take l z σ hz hD s9 hs) cs_Mod_104 (by decide) rfl hl.1 rfl (Nat.le_of_ble_eq_true rfl) (by decide) d_Mod_join_20 (fun σ1 H locs V hr => ?_)
      obtain ⟨f1, b1, v1⟩ := hr
      have hB := V.1.2.2
      refine nw_aload_n X d_Mod_join_23 rfl (lv_at hl 0 rfl) ?_
      refine gf_Mod_38 X V (hz (20, 0) rfl) d_Mod_join_24 ?_
      refine nw_iload_n X d_Mod_join_27 rfl (lv_at hl 2 rfl) ?_
      refine nw_iconst X 1 d_Mod_join_28 (by decide) ?_
      refine hw_zast X V (hz (30, 0) rfl) 1 (fun _ => rfl) rfl (by omega) (by decide) (by decide) d_Mod_join_29 (fun H locs V => ?_)
      have hB := V.1.2.2
      have f2 : ∀ u : hw_P, u ≠ (30, 0) → hw_up σ1 (30, 0) a 1 u = σ u := fun u hu => (hw_up_k _ _ _ hu).trans (f1 u hu)
      have b2 : ∀ a9, hw_up σ1 (30, 0) a 1 (30, 0) a9 < 2 := md_up2 b1 (by decide)
      have hD2 := md_mv hD f2 b2
      have hg2 := mq_g (mq_30 f2) hg
      have hX2 : ∀ x, (x < zz_N z ∧ hw_up σ1 (30, 0) a 1 (30, 0) x = 1) ↔ (x < zz_N z ∧ S s9 x) ∨ x = a := fun x => by
        rw [hw_up_v]
        by_cases e : x = a
        · rw [if_pos e, e]; exact ⟨fun _ => Or.inr rfl, fun _ => ⟨ha, rfl⟩⟩
        · rw [if_neg e]
          exact ⟨fun h => Or.inl ⟨h.1, (hpl s9 hs x h.1).mp (by rw [← v1 x h.1]; exact h.2)⟩, fun h => h.elim (fun q => ⟨q.1, by rw [v1 x q.1]; exact (hpl s9 hs x q.1).mpr q.2⟩) (fun q => absurd q e)⟩
      generalize hw_up σ1 (30, 0) a 1 = σ2 at V hB f2 b2 hD2 hg2 hX2 ⊢
      refine nw_aload_n X d_Mod_join_30 rfl (lv_at hl 0 rfl) ?_
      refine nw_iload_n X d_Mod_join_31 rfl (lv_at hl 1 rfl) ?_
      refine hw_calli X V (hz (20, 0) rfl) rfl rfl (cm_Mod_put l z σ2 hz hD2 _ hg2 s9 hs) cs_Mod_107 (by decide) rfl hl.1 rfl (Nat.le_of_ble_eq_true rfl) (by decide) d_Mod_join_32 (fun r σ9 H locs V hr => ?_)
      obtain ⟨f9, b29, b30, v9, o9, rfl⟩ := hr
      have hB := V.1.2.2
      have hJ : ∀ x, gp_gn (zz_N z) (tw_op (zz_n z) r9 w p9 c9 (zz_n z)) (fun x => x < zz_N z ∧ σ2 (30, 0) x = 1) x ↔ gp_gn (zz_N z) (tw_op (zz_n z) r9 w p9 c9 (zz_n z)) (fun x => (x < zz_N z ∧ S s9 x) ∨ x = a) x := gp_gn_ext hX2
      have hq9 : mq_q σ σ9 := fun u a9 b9 c10 => (f9 u a9 b9).trans (f2 u b9)
      exact hret _ _ _ _ _ _ d_Mod_join_35 V (by
        rw [ev, ev2]
        have hSN := hSl s9 hs
        have hJ2 : ∀ x, gp_gn (zz_N z) (tw_op (zz_n z) r9 w p9 c9 (zz_n z)) (fun x => x < zz_N z ∧ σ2 (30, 0) x = 1) x ↔ (sp_join (zz_N z) (tw_op (zz_n z) r9 w p9 c9 (zz_n z)) (S s9) a) x := fun x => (hJ x).trans (gp_gn_ext (fun y => ⟨fun h => h.elim (fun q => Or.inl q.2) Or.inr, fun h => h.elim (fun q => Or.inl ⟨hSN y q, q⟩) Or.inr⟩) x)
        exact ⟨ms_put hM hf1 hs ⟨hf1, ⟨s9, hs, rfl⟩, a, ha, rfl⟩ hq9 ⟨b29, b30, by rw [f9 (31, 0) (hw_ne (by decide)) (hw_ne (by decide)), f2 (31, 0) (hw_ne (by decide))]; exact h31⟩ (fun x hx => (v9 x hx).trans (hJ2 x)) (fun i hi => (o9 i hi).trans (by rw [f2 (29, 0) (hw_ne (by decide))])), hq9, fun _ => by rw [gp_cd_congr (fun x _ => hJ2 x)], fun h => absurd ⟨hf1, ⟨s9, hs, rfl⟩, a, ha, rfl⟩ h⟩)
    · skip
      have hno : ¬ (σ (20, 0) 6 = 1 ∧ el_i 4 x ∧ el_i (zz_N z) y) := fun h => by have := hbp2.mpr ⟨h.1, h.2.2⟩; omega
      refine nw_iconstv X (-1) d_Mod_join_16 (by decide) ?_
      exact hret _ _ _ _ _ _ d_Mod_join_17 V ⟨ms_no hM hno, mq_q.rf, fun h => absurd h hno, fun _ => rfl⟩
