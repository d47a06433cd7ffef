/-! The class: relations, places. By program (wip/whole/gen/top2.py). -/
set_option maxHeartbeats 4000000 in
set_option maxRecDepth 20000 in
theorem cm_Top_power (l : Launch) (z : zz_Z) (σ : hw_M) (hz : ∀ k, zz_k (zz_n z) k → zz_O z k) (S : Nat → Nat → Prop) (hC : cs_ok z σ S) (x y : Int32) : Met l y_Top_power (hw_c y_Top_power b_Top_power 3 (some .boolean)) (hw_r 2) (va_Pc [.ref (zz_A z (0, 0)), .int x, .int y] (zz_B z σ)) (va_Qi (fun r σ' => ∃ b, b < 2 ∧ r = nI b ∧ (fun b σ' => cs_ok z σ' S ∧ b = cn_n (sp_pw (σ (0, 0) 6) (zz_n z) (σ (3, 0)) x y) 1 0 ∧ σ' (4, 0) = sp_pw1 (σ (0, 0) 6) (zz_n z) (σ (3, 0)) (σ (4, 0)) x y ∧ (∀ u : hw_P, u ≠ (4, 0) → σ' u = σ u)) b σ') (zz_B z) (zz_F z)) 0 0 (zz_F z) := by
  refine hw_metz (post := (fun b σ' => cs_ok z σ' S ∧ b = cn_n (sp_pw (σ (0, 0) 6) (zz_n z) (σ (3, 0)) x y) 1 0 ∧ σ' (4, 0) = sp_pw1 (σ (0, 0) 6) (zz_n z) (σ (3, 0)) (σ (4, 0)) x y ∧ (∀ u : hw_P, u ≠ (4, 0) → σ' u = σ u))) (by decide) (Nat.le_of_ble_eq_true rfl) ?_
  intro p e s m args below meth c ls Q X hret V hl
  have hl : lv_has ls 3 [(0, .ref (zz_A z (0, 0))), (1, .int x), (2, .int y)] := hl
  have hB := V.1.2.2
  obtain ⟨hS, hR, hf2, hes, hfx⟩ := id hC
  obtain ⟨hn7, hN, hn, hNe, hw, hsz, hln⟩ := id hS
  refine nw_aload_n X d_Top_power_0 rfl (lv_at hl 0 rfl) ?_
  refine gf_Top_54 X V (hz (0, 0) rfl) d_Top_power_1 ?_
  refine nw_if_ne X (tgt := 19) d_Top_power_4 (by decide) (by omega) (fun hc => ?_) (fun hc => ?_)
  · skip
    have hno : ¬ sp_pw (σ (0, 0) 6) (zz_n z) (σ (3, 0)) x y := fun h => h.1 (by omega)
    refine nw_iconst X 0 d_Top_power_19 (by decide) ?_
    exact hret 0 _ _ _ _ _ d_Top_power_20 V (by decide) ⟨hC, (cn_f hno).symm, pw_no hno, fun _ _ => rfl⟩
  · skip
    have hf0 := hc
    refine nw_aload_n X d_Top_power_7 rfl (lv_at hl 0 rfl) ?_
    refine gf_Top_18 X V (hz (0, 0) rfl) d_Top_power_8 ?_
    refine nw_iload_n X d_Top_power_11 rfl (lv_at hl 1 rfl) ?_
    refine nw_iload_n X d_Top_power_12 rfl (lv_at hl 2 rfl) ?_
    refine hw_calli X V (hz (1, 0) rfl) rfl rfl (cm_Col_isWordBehind l z σ hz hS x y) cs_Top_69 (by decide) rfl hl.1 rfl (Nat.le_of_ble_eq_true rfl) (by decide) d_Top_power_13 (fun r σ' H locs V hr => ?_)
    obtain ⟨b1, hb1, rfl, hσ, hbp1⟩ := hr
    rw [hσ] at V
    clear hσ
    have hB := V.1.2.2
    refine nw_if_ne X (tgt := 21) d_Top_power_16 (by decide) (by omega) (fun hc1 => ?_) (fun hc1 => ?_)
    · skip
      obtain ⟨j, v, hj, rfl, hv, rfl⟩ := hbp1.mp (by omega)
      have hv2 : v < 2147483648 := by have := hB (3, 0) j; omega
      have hy : sp_pw (σ (0, 0) 6) (zz_n z) (σ (3, 0)) (nI j) (nI v) := ⟨by omega, j, v, hj, rfl, hv, rfl⟩
      refine nw_aload_n X d_Top_power_21 rfl (lv_at hl 0 rfl) ?_
      refine gf_Top_18 X V (hz (0, 0) rfl) d_Top_power_22 ?_
      refine nw_iload_n X d_Top_power_25 rfl (lv_at hl 1 rfl) ?_
      refine nw_iload_n X d_Top_power_26 rfl (lv_at hl 2 rfl) ?_
      refine hw_callv X V (hz (1, 0) rfl) rfl rfl (cm_Col_setPower l z σ hz hS j v hj hv2) cs_Top_73 (by decide) rfl hl.1 rfl (Nat.le_of_ble_eq_true rfl) (by decide) d_Top_power_27 (fun σ' H locs V hr => ?_)
      subst hr
      refine nw_iconst X 1 d_Top_power_30 (by decide) ?_
      exact hret 1 _ _ _ _ _ d_Top_power_31 V (by decide) ⟨cs_pow hC hf0 hj hv, (cn_t hy).symm, pw_eq (by omega) hy hj hv2, fun u hu => hw_up_k _ _ _ hu⟩
    · skip
      have hno : ¬ sp_pw (σ (0, 0) 6) (zz_n z) (σ (3, 0)) x y := fun h => by have := hbp1.mpr h.2; omega
      refine nw_iconst X 0 d_Top_power_19 (by decide) ?_
      exact hret 0 _ _ _ _ _ d_Top_power_20 V (by decide) ⟨hC, (cn_f hno).symm, pw_no hno, fun _ _ => rfl⟩
set_option maxHeartbeats 4000000 in
set_option maxRecDepth 20000 in
theorem cm_Top_conjugate (l : Launch) (z : zz_Z) (σ : hw_M) (hz : ∀ k, zz_k (zz_n z) k → zz_O z k) (S : Nat → Nat → Prop) (hC : cs_ok z σ S) (x y t : Int32) : Met l y_Top_conjugate (hw_c y_Top_conjugate b_Top_conjugate 4 (some .boolean)) (hw_r 2) (va_Pc [.ref (zz_A z (0, 0)), .int x, .int y, .int t] (zz_B z σ)) (va_Qi (fun r σ' => ∃ b, b < 2 ∧ r = nI b ∧ (fun b σ' => cs_ok z σ' S ∧ b = cn_n (sp_cg (σ (0, 0) 6) (zz_n z) (σ (3, 0)) x y t) 1 0 ∧ (fun i => σ' (6, i)) = sp_cg1 (σ (0, 0) 6) (zz_n z) (σ (3, 0)) (fun i => σ (6, i)) x y t ∧ ∀ u : hw_P, u.1 ≠ 6 → σ' u = σ u) b σ') (zz_B z) (zz_F z)) 0 0 (zz_F z) := by
  refine hw_metz (post := (fun b σ' => cs_ok z σ' S ∧ b = cn_n (sp_cg (σ (0, 0) 6) (zz_n z) (σ (3, 0)) x y t) 1 0 ∧ (fun i => σ' (6, i)) = sp_cg1 (σ (0, 0) 6) (zz_n z) (σ (3, 0)) (fun i => σ (6, i)) x y t ∧ ∀ u : hw_P, u.1 ≠ 6 → σ' u = σ u)) (by decide) (Nat.le_of_ble_eq_true rfl) ?_
  intro p e s m args below meth c ls Q X hret V hl
  have hl : lv_has ls 4 [(0, .ref (zz_A z (0, 0))), (1, .int x), (2, .int y), (3, .int t)] := hl
  have hB := V.1.2.2
  obtain ⟨hS, hR, hf2, hes, hfx⟩ := id hC
  obtain ⟨hn7, hN, hn, hNe, hw, hsz, hln⟩ := id hS
  refine nw_aload_n X d_Top_conjugate_0 rfl (lv_at hl 0 rfl) ?_
  refine gf_Top_54 X V (hz (0, 0) rfl) d_Top_conjugate_1 ?_
  refine nw_if_ne X (tgt := 35) d_Top_conjugate_4 (by decide) (by omega) (fun hc => ?_) (fun hc => ?_)
  · skip
    have hno : ¬ sp_cg (σ (0, 0) 6) (zz_n z) (σ (3, 0)) x y t := fun h => h.1 (by omega)
    refine nw_iconst X 0 d_Top_conjugate_35 (by decide) ?_
    exact hret 0 _ _ _ _ _ d_Top_conjugate_36 V (by decide) ⟨hC, (cn_f hno).symm, cg_no hno, fun _ _ => rfl⟩
  · skip
    have hf0 := hc
    refine nw_aload_n X d_Top_conjugate_7 rfl (lv_at hl 0 rfl) ?_
    refine gf_Top_18 X V (hz (0, 0) rfl) d_Top_conjugate_8 ?_
    refine nw_iload_n X d_Top_conjugate_11 rfl (lv_at hl 2 rfl) ?_
    refine hw_calli X V (hz (1, 0) rfl) rfl rfl (cm_Col_isLetter l z σ hz hS y) cs_Top_61 (by decide) rfl hl.1 rfl (Nat.le_of_ble_eq_true rfl) (by decide) d_Top_conjugate_12 (fun r σ' H locs V hr => ?_)
    obtain ⟨b1, hb1, rfl, hσ, hbp1⟩ := hr
    rw [hσ] at V
    clear hσ
    have hB := V.1.2.2
    refine nw_if_eq X (tgt := 35) d_Top_conjugate_15 (by decide) (by omega) (fun hc1 => ?_) (fun hc1 => ?_)
    · skip
      have hno : ¬ sp_cg (σ (0, 0) 6) (zz_n z) (σ (3, 0)) x y t := fun ⟨_, i, j, v, h1, h2, h3, h4, h5⟩ => by have := hbp1.mpr ⟨j, h2, h4⟩; omega
      refine nw_iconst X 0 d_Top_conjugate_35 (by decide) ?_
      exact hret 0 _ _ _ _ _ d_Top_conjugate_36 V (by decide) ⟨hC, (cn_f hno).symm, cg_no hno, fun _ _ => rfl⟩
    · skip
      obtain ⟨j, hj, rfl⟩ := hbp1.mp (by omega)
      have hu : ∀ i, i < zz_n z → nI j = nI i → j = i := fun i hi q => (nI_eq (by omega) (by omega)).mp q
      refine nw_iload_n X d_Top_conjugate_18 rfl (lv_at hl 1 rfl) ?_
      refine nw_iload_n X d_Top_conjugate_19 rfl (lv_at hl 2 rfl) ?_
      refine lv_icmp_ge (tgt := 35) X.1.1 X.1.2.1 d_Top_conjugate_20 (by decide) (fun hc2 => ?_) (fun hc2 => ?_)
      · skip
        have hno : ¬ sp_cg (σ (0, 0) 6) (zz_n z) (σ (3, 0)) x (nI j) t := fun ⟨_, i, j9, v, h1, h2, h3, h4, h5⟩ => by
          have e := hu j9 h2 h4
          subst e
          rw [h3] at hc2
          exact nI_ge h1 (by omega) hc2
        refine nw_iconst X 0 d_Top_conjugate_35 (by decide) ?_
        exact hret 0 _ _ _ _ _ d_Top_conjugate_36 V (by decide) ⟨hC, (cn_f hno).symm, cg_no hno, fun _ _ => rfl⟩
      · skip
        refine nw_aload_n X d_Top_conjugate_23 rfl (lv_at hl 0 rfl) ?_
        refine gf_Top_18 X V (hz (0, 0) rfl) d_Top_conjugate_24 ?_
        refine nw_iload_n X d_Top_conjugate_27 rfl (lv_at hl 1 rfl) ?_
        refine nw_iload_n X d_Top_conjugate_28 rfl (lv_at hl 3 rfl) ?_
        refine hw_calli X V (hz (1, 0) rfl) rfl rfl (cm_Col_isWordBehind l z σ hz hS x t) cs_Top_69 (by decide) rfl hl.1 rfl (Nat.le_of_ble_eq_true rfl) (by decide) d_Top_conjugate_29 (fun r σ' H locs V hr => ?_)
        obtain ⟨b3, hb3, rfl, hσ, hbp3⟩ := hr
        rw [hσ] at V
        clear hσ
        have hB := V.1.2.2
        refine nw_if_ne X (tgt := 37) d_Top_conjugate_32 (by decide) (by omega) (fun hc3 => ?_) (fun hc3 => ?_)
        · skip
          obtain ⟨i, v, hi, rfl, hv, rfl⟩ := hbp3.mp (by omega)
          have hv2 : v < 2147483648 := by have := hB (3, 0) i; omega
          have hij : i < j := Nat.lt_of_not_le fun q => hc2 (nI_le q (by omega))
          have hy : sp_cg (σ (0, 0) 6) (zz_n z) (σ (3, 0)) (nI i) (nI j) (nI v) := ⟨by omega, i, j, v, hij, hj, rfl, rfl, hv, rfl⟩
          refine nw_aload_n X d_Top_conjugate_37 rfl (lv_at hl 0 rfl) ?_
          refine gf_Top_18 X V (hz (0, 0) rfl) d_Top_conjugate_38 ?_
          refine nw_iload_n X d_Top_conjugate_41 rfl (lv_at hl 1 rfl) ?_
          refine nw_iload_n X d_Top_conjugate_42 rfl (lv_at hl 2 rfl) ?_
          refine nw_iload_n X d_Top_conjugate_43 rfl (lv_at hl 3 rfl) ?_
          refine hw_callv X V (hz (1, 0) rfl) rfl rfl (cm_Col_setConjugate l z σ hz hS i j v hi hj hv2) cs_Top_77 (by decide) rfl hl.1 rfl (Nat.le_of_ble_eq_true rfl) (by decide) d_Top_conjugate_44 (fun σ' H locs V hr => ?_)
          subst hr
          refine nw_iconst X 1 d_Top_conjugate_47 (by decide) ?_
          exact hret 1 _ _ _ _ _ d_Top_conjugate_48 V (by decide) ⟨cs_cgj hC hf0 hv, (cn_t hy).symm, cg_eq (by omega) hy hi hj hv2, fun u hu => hw_up_k _ _ _ (fun e => hu (by rw [e]))⟩
        · skip
          have hno : ¬ sp_cg (σ (0, 0) 6) (zz_n z) (σ (3, 0)) x (nI j) t := fun ⟨_, i, j9, v, h1, h2, h3, h4, h5, h6⟩ => by have := hbp3.mpr ⟨i, v, by omega, h3, h5, h6⟩; omega
          refine nw_iconst X 0 d_Top_conjugate_35 (by decide) ?_
          exact hret 0 _ _ _ _ _ d_Top_conjugate_36 V (by decide) ⟨hC, (cn_f hno).symm, cg_no hno, fun _ _ => rfl⟩
set_option maxHeartbeats 4000000 in
set_option maxRecDepth 20000 in
theorem cm_Top_fillWhole (l : Launch) (z : zz_Z) (σ : hw_M) (hz : ∀ k, zz_k (zz_n z) k → zz_O z k) (hL : lo_ok z σ 0) (q : List Nat) (hE : es_ok z σ 4 q) : Met l y_Top_fillWhole (hw_c y_Top_fillWhole b_Top_fillWhole 2 none) (hw_r 3) (va_Pc [.ref (zz_A z (0, 0))] (zz_B z σ)) (va_Qv (fun σ' => ∃ q' c', sg_gp z (gr_p z σ) σ' 4 q' c' ∧ (∀ x, x ∈ q' ↔ x < zz_N z) ∧ sg_fr 4 σ σ') (zz_B z) (zz_F z)) 0 0 (zz_F z) := by
  refine hw_metv (post := (fun σ' => ∃ q' c', sg_gp z (gr_p z σ) σ' 4 q' c' ∧ (∀ x, x ∈ q' ↔ x < zz_N z) ∧ sg_fr 4 σ σ')) (by decide) (Nat.le_of_ble_eq_true rfl) ?_
  intro p e s m args below meth c ls Q X hret V hl
  have hl : lv_has ls 2 [(0, .ref (zz_A z (0, 0)))] := hl
  have hB := V.1.2.2
  obtain ⟨⟨hn7, hN, hn, hNe, hw, hsz, hln⟩, hk, ht⟩ := id hL
  have g := lo_gp hL
  refine nw_aload_n X d_Top_fillWhole_0 rfl (lv_at hl 0 rfl) ?_
  refine gf_Top_31 X V (hz (0, 0) rfl) d_Top_fillWhole_1 ?_
  refine hw_callv X V (hz (12, 4) (show 4 < 7 by first | assumption | omega)) rfl rfl (cm_Sub_reset l z σ hz 4 (by decide) hN q hE g.pos) cs_Top_85 (by decide) rfl hl.1 rfl (Nat.le_of_ble_eq_true rfl) (by decide) d_Top_fillWhole_4 (fun σ0 H locs V hr => ?_)
  obtain ⟨e0, f0⟩ := hr
  refine nw_iconst X 0 d_Top_fillWhole_7 (by decide) ?_
  refine nw_istore_n X (lv' := [(1, _), (0, _)]) d_Top_fillWhole_8 rfl hl (by decide) rfl (fun ls hl => ?_)
  have LP9 : ∀ (d i : Nat) (q1 c1 : List Nat) (σ1 : hw_M) (H : Heap) (locs : List Loc) (ls : Array Slot), zz_n z - i < d → (i ≤ zz_n z) → (sg_fr 4 σ σ1) → (sg_gp z (gr_p z σ) σ1 4 q1 c1) → (∀ t, t < i → σ (3, 0) t ∈ q1) → zz_V z σ1 s.heap H locs →  lv_has ls 2 [(0, .ref (zz_A z (0, 0))), (1, .int (nI i))] →  W p l e (hw_r 3) s m args below meth c H locs 0 0 Q (F0 m 9 ls []) := by
    intro d
    induction d with
    | zero => intro i q1 c1 σ1 H locs ls hd; exact absurd hd (Nat.not_lt_zero _)
    | succ d IH9 =>
      intro i q1 c1 σ1 H locs ls hd hin hfr hG1 hall V hl
      have hB := V.1.2.2
      have hLo := sg_lo hL hfr
      have e3 : σ1 (3, 0) = σ (3, 0) := hfr (3, 0) (Or.inr (Or.inl (by decide)))
      refine nw_iload_n X d_Top_fillWhole_9 rfl (lv_at hl 1 rfl) ?_
      refine nw_aload_n X d_Top_fillWhole_10 rfl (lv_at hl 0 rfl) ?_
      refine gf_Top_18 X V (hz (0, 0) rfl) d_Top_fillWhole_11 ?_
      refine hw_calli X V (hz (1, 0) rfl) rfl rfl (cm_Col_letterCount l z σ1 hz hLo.1.1) cs_Top_58 (by decide) rfl hl.1 rfl (Nat.le_of_ble_eq_true rfl) (by decide) d_Top_fillWhole_14 (fun r σ' H locs V hr => ?_)
      obtain ⟨hσ, rfl⟩ := hr
      rw [hσ] at V
      clear hσ
      have hB := V.1.2.2
      refine nw_icmp_ge X (tgt := 41) d_Top_fillWhole_17 (by decide) (by first | assumption | omega) (by first | assumption | omega) (fun hi => ?_) (fun hi => ?_)
      · skip
        exact hret _ _ _ _ _ d_Top_fillWhole_41 V ⟨q1, c1, hG1, sg_full hL hG1 (fun t ht => hall t (by omega)), hfr⟩
      · skip
        refine nw_aload_n X d_Top_fillWhole_20 rfl (lv_at hl 0 rfl) ?_
        refine gf_Top_31 X V (hz (0, 0) rfl) d_Top_fillWhole_21 ?_
        refine nw_aload_n X d_Top_fillWhole_24 rfl (lv_at hl 0 rfl) ?_
        refine gf_Top_18 X V (hz (0, 0) rfl) d_Top_fillWhole_25 ?_
        refine nw_iload_n X d_Top_fillWhole_28 rfl (lv_at hl 1 rfl) ?_
        refine hw_calli X V (hz (1, 0) rfl) rfl rfl (cm_Col_letter l z σ1 hz hLo.1.1 i hi) cs_Top_65 (by decide) rfl hl.1 rfl (Nat.le_of_ble_eq_true rfl) (by decide) d_Top_fillWhole_29 (fun r σ' H locs V hr => ?_)
        obtain ⟨hσ, rfl⟩ := hr
        rw [hσ] at V
        clear hσ
        have hB := V.1.2.2
        rw [e3]
        refine hw_callv X V (hz (12, 4) (show 4 < 7 by first | assumption | omega)) rfl rfl (cm_Sub_include l z σ1 hz 4 (by decide) hLo.1 q1 c1 (by rw [hLo.2]; exact hG1) _ (by rw [hsz]; exact hw.ltN hi)) cs_Top_121 (by decide) rfl hl.1 rfl (Nat.le_of_ble_eq_true rfl) (by decide) d_Top_fillWhole_32 (fun σ2 H locs V hr => ?_)
        obtain ⟨q2, c2, hG2, hin2, hc2, hf2⟩ := hr
        rw [hLo.2] at hG2
        have hB := V.1.2.2
        have hc12 : ∀ b, b ∈ c1 → b ∈ c2 := fun b hb => by rcases hc2 with e | e <;> rw [e]; exact hb; exact List.mem_append_left _ hb
        have hm := sg_mono hG1 hG2 hc12
        refine nw_iinc X (lv' := [(1, _), (0, _)]) (k := 1) 1 d_Top_fillWhole_35 hl rfl (by decide) (by decide) rfl (fun ls hl => ?_)
        refine nw_goto X (tgt := 9) d_Top_fillWhole_38 (by decide) ?_
        exact IH9 (i + 1) q2 c2 _ _ _ _ (by omega) hi (hfr.tr hf2) hG2 (fun t ht => by by_cases e : t = i; rw [e]; exact hin2; exact hm _ (hall t (by omega))) V (lv_sub hl [1, 0] rfl)
  exact LP9 (zz_n z + 1) 0 [0] [] _ _ _ _ (by omega) (Nat.zero_le _) f0 (sg_gp0 g e0) (fun t ht => absurd ht (Nat.not_lt_zero _)) V (lv_sub hl [1, 0] rfl)
set_option maxHeartbeats 4000000 in
set_option maxRecDepth 20000 in
theorem cm_Top_fix (l : Launch) (z : zz_Z) (σ : hw_M) (hz : ∀ k, zz_k (zz_n z) k → zz_O z k) (S : Nat → Nat → Prop) (hC : cs_ok z σ S) : Met l y_Top_fix (hw_c y_Top_fix b_Top_fix 2 (some .boolean)) (hw_r 4) (va_Pc [.ref (zz_A z (0, 0))] (zz_B z σ)) (va_Qi (fun r σ' => ∃ b, b < 2 ∧ r = nI b ∧ (fun b σ' => b = cn_n (σ (0, 0) 6 = 1 ∨ mo_k z σ (zz_n z)) 1 0 ∧ cs_ok z σ' (fun s v => (σ (0, 0) 6 = 1 ∧ S s v) ∨ (σ (0, 0) 6 ≠ 1 ∧ v = 0)) ∧ σ' (0, 0) 6 = b ∧ (∀ u : hw_P, u.1 < 8 → u.1 ≠ 0 → σ' u = σ u) ∧ ∀ u : hw_P, 16 < u.1 → σ' u = σ u) b σ') (zz_B z) (zz_F z)) 0 0 (zz_F z) := by
  refine hw_metz (post := (fun b σ' => b = cn_n (σ (0, 0) 6 = 1 ∨ mo_k z σ (zz_n z)) 1 0 ∧ cs_ok z σ' (fun s v => (σ (0, 0) 6 = 1 ∧ S s v) ∨ (σ (0, 0) 6 ≠ 1 ∧ v = 0)) ∧ σ' (0, 0) 6 = b ∧ (∀ u : hw_P, u.1 < 8 → u.1 ≠ 0 → σ' u = σ u) ∧ ∀ u : hw_P, 16 < u.1 → σ' u = σ u)) (by decide) (Nat.le_of_ble_eq_true rfl) ?_
  intro p e s m args below meth c ls Q X hret V hl
  have hl : lv_has ls 2 [(0, .ref (zz_A z (0, 0)))] := hl
  have hB := V.1.2.2
  obtain ⟨hS, hR, hf2, hes, hfx⟩ := id hC
  obtain ⟨hn7, hN, hn, hNe, hw, hsz, hln⟩ := id hS
  refine nw_aload_n X d_Top_fix_0 rfl (lv_at hl 0 rfl) ?_
  refine gf_Top_54 X V (hz (0, 0) rfl) d_Top_fix_1 ?_
  refine nw_if_ne X (tgt := 48) d_Top_fix_4 (by decide) (by omega) (fun hc => ?_) (fun hc => ?_)
  · skip
    have hf1 : σ (0, 0) 6 = 1 := by omega
    have hcc : σ (0, 0) 6 = cn_n (σ (0, 0) 6 = 1 ∨ mo_k z σ (zz_n z)) 1 0 := by rw [cn_t (Or.inl hf1)]; exact hf1
    refine nw_aload_n X d_Top_fix_48 rfl (lv_at hl 0 rfl) ?_
    refine gf_Top_54 X V (hz (0, 0) rfl) d_Top_fix_49 ?_
    exact hret _ _ _ _ _ _ d_Top_fix_52 V hf2 ⟨hcc, cs_ext hC (fun _ s _ v => ⟨fun h => Or.inl ⟨hf1, h⟩, fun h => h.elim (fun q => q.2) (fun q => absurd hf1 q.1)⟩), rfl, fun _ _ _ => rfl, fun _ _ => rfl⟩
  · skip
    have hf0 := hc
    refine nw_aload_n X d_Top_fix_7 rfl (lv_at hl 0 rfl) ?_
    refine gf_Top_18 X V (hz (0, 0) rfl) d_Top_fix_8 ?_
    refine hw_calli X V (hz (1, 0) rfl) rfl rfl (cm_Col_build l z σ hz hS hR) cs_Top_81 (by decide) rfl hl.1 rfl (Nat.le_of_ble_eq_true rfl) (by decide) d_Top_fix_11 (fun r σ1 H locs V hr => ?_)
    obtain ⟨b1, hb1, rfl, f1, hk1, hl1⟩ := hr
    have hB := V.1.2.2
    have hS1 := bl_st f1 hS
    have hR1 := rl_keep hR f1
    have e0 : σ1 (0, 0) = σ (0, 0) := f1 (0, 0) (by decide) (by decide)
    have hes1 : ∀ j, j < 8 → ∃ q, es_ok z σ1 j q := fun j hj => by
      obtain ⟨q, hq⟩ := hes j hj
      exact ⟨q, es_keep hq (f1 (13, j) (by show (13 : Nat) ≠ 8; decide) (by show (13 : Nat) ≠ 10; decide)) (f1 (14, j) (by show (14 : Nat) ≠ 8; decide) (by show (14 : Nat) ≠ 10; decide)) (f1 (15, j) (by show (15 : Nat) ≠ 8; decide) (by show (15 : Nat) ≠ 10; decide))⟩
    refine nw_if_eq X (tgt := 48) d_Top_fix_14 (by decide) (by omega) (fun hc1 => ?_) (fun hc1 => ?_)
    · skip
      have hno : ¬ (σ (0, 0) 6 = 1 ∨ mo_k z σ (zz_n z)) := fun h => h.elim (fun q => by omega) (fun q => by have := hk1.mpr q; omega)
      have hz9 : σ1 (0, 0) 6 = 0 := by rw [e0]; exact hf0
      refine nw_aload_n X d_Top_fix_48 rfl (lv_at hl 0 rfl) ?_
      refine gf_Top_54 X V (hz (0, 0) rfl) d_Top_fix_49 ?_
      exact hret _ _ _ _ _ _ d_Top_fix_52 V (by omega) ⟨by rw [cn_f hno]; exact hz9, cs_open hS1 hR1 hz9 hes1, rfl, fun u h1 h2 => f1 u (fun e => by omega) (fun e => by omega), fun u hu => f1 u (fun e => by omega) (fun e => by omega)⟩
    · skip
      have hb11 : b1 = 1 := by omega
      have hL1 := hl1 hb11
      have g1 := lo_gp hL1
      refine nw_aload_n X d_Top_fix_17 rfl (lv_at hl 0 rfl) ?_
      refine nw_iconst X 1 d_Top_fix_18 (by decide) ?_
      refine pf_Top_54 X V (hz (0, 0) rfl) (by decide) d_Top_fix_19 (fun H locs V => ?_)
      have hB := V.1.2.2
      refine nw_iconst X 0 d_Top_fix_22 (by decide) ?_
      refine nw_istore_n X (lv' := [(1, _), (0, _)]) d_Top_fix_23 rfl hl (by decide) rfl (fun ls hl => ?_)
      have LP24 : ∀ (d k : Nat) (σ2 : hw_M) (H : Heap) (locs : List Loc) (ls : Array Slot), 4 - k < d → (k ≤ 4) → (σ2 (0, 0) 6 = 1) → (∀ u : hw_P, u.1 ≠ 0 → (u.1 < 12 ∨ 16 < u.1) → σ2 u = σ1 u) → (∀ j, j < 8 → ∃ q, es_ok z σ2 j q) → (∀ s, s < k → sg_ok z σ2 s [0] []) → zz_V z σ2 s.heap H locs →  lv_has ls 2 [(0, .ref (zz_A z (0, 0))), (1, .int (nI k))] →  W p l e (hw_r 4) s m args below meth c H locs 0 0 Q (F0 m 24 ls []) := by
        intro d
        induction d with
        | zero => intro k σ2 H locs ls hd; exact absurd hd (Nat.not_lt_zero _)
        | succ d IH24 =>
          intro k σ2 H locs ls hd hk4 hfl hfr hes2 hz2 V hl
          have hB := V.1.2.2
          refine nw_iload_n X d_Top_fix_24 rfl (lv_at hl 1 rfl) ?_
          refine nw_iconst X 4 d_Top_fix_25 (by decide) ?_
          refine nw_icmp_ge X (tgt := 44) d_Top_fix_26 (by decide) (by omega) (by decide) (fun hc4 => ?_) (fun hc4 => ?_)
          · skip
            have hL2 := (lo_keep hL1 (σ1 := σ2) (fun u h0 h1 _ _ => hfr u (by omega) (Or.inl h1))).1
            obtain ⟨q4, hq4⟩ := hes2 4 (by decide)
            refine nw_aload_n X d_Top_fix_44 rfl (lv_at hl 0 rfl) ?_
            refine hw_callv X V (hz (0, 0) rfl) rfl rfl (cm_Top_fillWhole l z σ2 hz hL2 q4 hq4) cs_Top_88 (by decide) rfl hl.1 rfl (Nat.le_of_ble_eq_true rfl) (by decide) d_Top_fix_45 (fun σ3 H locs V hr => ?_)
            obtain ⟨qw, bw, hGw, hall, f3⟩ := hr
            have hB := V.1.2.2
            have hfl3 : σ3 (0, 0) 6 = 1 := by rw [f3 (0, 0) (Or.inr (Or.inl (by decide)))]; exact hfl
            refine nw_aload_n X d_Top_fix_48 rfl (lv_at hl 0 rfl) ?_
            refine gf_Top_54 X V (hz (0, 0) rfl) d_Top_fix_49 ?_
            exact hret _ _ _ _ _ _ d_Top_fix_52 V (by omega) (fx_end hC hf0 (hk1.mp hb11) f1 hL1 hL2 hfl hfr hes2 (fun s hs => hz2 s (by omega)) hGw hall f3 hfl3)
          · skip
            obtain ⟨q9, hq9⟩ := hes2 k (by omega)
            refine nw_aload_n X d_Top_fix_29 rfl (lv_at hl 0 rfl) ?_
            refine gf_Top_24 X V (hz (0, 0) rfl) d_Top_fix_30 ?_
            refine nw_iload_n X d_Top_fix_33 rfl (lv_at hl 1 rfl) ?_
            refine hw_aald X V (hz (11, 0) rfl) 3 rfl rfl rfl hc4 (by decide) rfl d_Top_fix_34 ?_
            refine hw_callv X V (hz (12, k) (show k < 7 by first | assumption | omega)) rfl rfl (cm_Sub_reset l z σ2 hz k (by omega) hN q9 hq9 g1.pos) cs_Top_85 (by decide) rfl hl.1 rfl (Nat.le_of_ble_eq_true rfl) (by decide) d_Top_fix_35 (fun σ3 H locs V hr => ?_)
            obtain ⟨e3, f3⟩ := hr
            refine nw_iinc X (lv' := [(1, _), (0, _)]) (k := 1) 1 d_Top_fix_38 hl rfl (by decide) (by decide) rfl (fun ls hl => ?_)
            refine nw_goto X (tgt := 24) d_Top_fix_41 (by decide) ?_
            exact IH24 (k + 1) _ _ _ _ (by omega) hc4 (by rw [f3 (0, 0) (Or.inr (Or.inl (by decide)))]; exact hfl) (fun u h1 h2 => (f3 u (Or.inr h2)).trans (hfr u h1 h2)) (es_all hes2 f3 ⟨_, e3.1⟩) (fun s hs => by by_cases e : s = k; rw [e]; exact e3; exact sg_oth (hz2 s (by omega)) f3 e) V (lv_sub hl [1, 0] rfl)
      exact LP24 (4 + 1) 0 _ _ _ _ (by omega) (Nat.zero_le _) (hw_up_s _ _ _ _) (fun u h1 _ => hw_up_k _ _ _ (fun e => h1 (by rw [e]))) (fun j hj => by
        obtain ⟨q, hq⟩ := hes1 j hj
        exact ⟨q, es_keep hq (hw_up_k _ _ _ (hw_ne (by decide))) (hw_up_k _ _ _ (hw_ne (by decide))) (hw_up_k _ _ _ (hw_ne (by decide)))⟩) (fun s hs => absurd hs (Nat.not_lt_zero _)) V (lv_sub hl [1, 0] rfl)
set_option maxHeartbeats 4000000 in
set_option maxRecDepth 20000 in
theorem cm_Top_count (l : Launch) (z : zz_Z) (σ : hw_M) (hz : ∀ k, zz_k (zz_n z) k → zz_O z k) (S : Nat → Nat → Prop) (hC : cs_ok z σ S) (x : Int32) : Met l y_Top_count (hw_c y_Top_count b_Top_count 2 (some .int)) (hw_r 2) (va_Pc [.ref (zz_A z (0, 0)), .int x] (zz_B z σ)) (va_Qi (fun r σ' => σ' = σ ∧ an_o (σ (0, 0) 6 = 1 ∧ el_i 4 x) (gp_cd (zz_N z) (S (el_v x))) r) (zz_B z) (zz_F z)) 0 0 (zz_F z) := by
  refine hw_meti (post := (fun r σ' => σ' = σ ∧ an_o (σ (0, 0) 6 = 1 ∧ el_i 4 x) (gp_cd (zz_N z) (S (el_v x))) r)) (by decide) (Nat.le_of_ble_eq_true rfl) ?_
  intro p e s m args below meth c ls Q X hret V hl
  have hl : lv_has ls 2 [(0, .ref (zz_A z (0, 0))), (1, .int x)] := hl
  have hB := V.1.2.2
  obtain ⟨hS, hR, hf2, hes, hfx⟩ := id hC
  obtain ⟨hn7, hN, hn, hNe, hw, hsz, hln⟩ := id hS
  refine nw_aload_n X d_Top_count_0 rfl (lv_at hl 0 rfl) ?_
  refine nw_iload_n X d_Top_count_1 rfl (lv_at hl 1 rfl) ?_
  refine hw_calli X V (hz (0, 0) rfl) rfl rfl (cm_Top_isPlace l z σ hz S hC x) cs_Top_115 (by decide) rfl hl.1 rfl (Nat.le_of_ble_eq_true rfl) (by decide) d_Top_count_2 (fun r σ' H locs V hr => ?_)
  obtain ⟨b1, hb1, rfl, hσ, hbp1⟩ := hr
  rw [hσ] at V
  clear hσ
  have hB := V.1.2.2
  refine nw_if_eq X (tgt := 20) d_Top_count_5 (by decide) (by omega) (fun hc => ?_) (fun hc => ?_)
  · skip
    refine nw_iconstv X (-1) d_Top_count_20 (by decide) ?_
    exact hret _ _ _ _ _ _ d_Top_count_21 V ⟨rfl, fun h => absurd (hbp1.mpr h) (by omega), fun _ => rfl⟩
  · skip
    obtain ⟨hf1, s9, hs, rfl⟩ := hbp1.mp (by omega)
    obtain ⟨hL, hpl, qw, bw, hGw, hwl⟩ := hfx hf1
    have g := lo_gp hL
    obtain ⟨q, b9, hG, hT⟩ := hpl s9 hs
    have ev : el_v (nI s9) = s9 := el_nv (by omega) hs
    refine nw_aload_n X d_Top_count_8 rfl (lv_at hl 0 rfl) ?_
    refine gf_Top_24 X V (hz (0, 0) rfl) d_Top_count_9 ?_
    refine nw_iload_n X d_Top_count_12 rfl (lv_at hl 1 rfl) ?_
    refine hw_aald X V (hz (11, 0) rfl) 3 rfl rfl rfl hs (by decide) rfl d_Top_count_13 ?_
    refine hw_calli X V (hz (12, s9) (show s9 < 7 by first | assumption | omega)) rfl rfl (cm_Sub_amount l z σ hz s9 (by omega) hN q hG.1.1) cs_Top_118 (by decide) rfl hl.1 rfl (Nat.le_of_ble_eq_true rfl) (by decide) d_Top_count_14 (fun r σ' H locs V hr => ?_)
    obtain ⟨hσ, rfl⟩ := hr
    rw [hσ] at V
    clear hσ
    have hB := V.1.2.2
    refine nw_goto X (tgt := 21) d_Top_count_17 (by decide) ?_
    exact hret _ _ _ _ _ _ d_Top_count_21 V ⟨rfl, fun _ => by rw [ev, cs_cnt hG hT], fun h => absurd ⟨hf1, s9, hs, rfl⟩ h⟩
set_option maxHeartbeats 4000000 in
set_option maxRecDepth 20000 in
theorem cm_Top_has (l : Launch) (z : zz_Z) (σ : hw_M) (hz : ∀ k, zz_k (zz_n z) k → zz_O z k) (S : Nat → Nat → Prop) (hC : cs_ok z σ S) (x y : Int32) : Met l y_Top_has (hw_c y_Top_has b_Top_has 3 (some .boolean)) (hw_r 2) (va_Pc [.ref (zz_A z (0, 0)), .int x, .int y] (zz_B z σ)) (va_Qi (fun r σ' => ∃ b, b < 2 ∧ r = nI b ∧ (fun b σ' => σ' = σ ∧ b = cn_n ((σ (0, 0) 6 = 1 ∧ el_i 4 x ∧ el_i (zz_N z) y) ∧ S (el_v x) (el_v y)) 1 0) b σ') (zz_B z) (zz_F z)) 0 0 (zz_F z) := by
  refine hw_metz (post := (fun b σ' => σ' = σ ∧ b = cn_n ((σ (0, 0) 6 = 1 ∧ el_i 4 x ∧ el_i (zz_N z) y) ∧ S (el_v x) (el_v y)) 1 0)) (by decide) (Nat.le_of_ble_eq_true rfl) ?_
  intro p e s m args below meth c ls Q X hret V hl
  have hl : lv_has ls 3 [(0, .ref (zz_A z (0, 0))), (1, .int x), (2, .int y)] := hl
  have hB := V.1.2.2
  obtain ⟨hS, hR, hf2, hes, hfx⟩ := id hC
  obtain ⟨hn7, hN, hn, hNe, hw, hsz, hln⟩ := id hS
  refine nw_aload_n X d_Top_has_0 rfl (lv_at hl 0 rfl) ?_
  refine nw_iload_n X d_Top_has_1 rfl (lv_at hl 1 rfl) ?_
  refine hw_calli X V (hz (0, 0) rfl) rfl rfl (cm_Top_isPlace l z σ hz S hC x) cs_Top_115 (by decide) rfl hl.1 rfl (Nat.le_of_ble_eq_true rfl) (by decide) d_Top_has_2 (fun r σ' H locs V hr => ?_)
  obtain ⟨b1, hb1, rfl, hσ, hbp1⟩ := hr
  rw [hσ] at V
  clear hσ
  have hB := V.1.2.2
  refine nw_if_eq X (tgt := 33) d_Top_has_5 (by decide) (by omega) (fun hc1 => ?_) (fun hc1 => ?_)
  · skip
    have hno : ¬ (σ (0, 0) 6 = 1 ∧ el_i 4 x ∧ el_i (zz_N z) y) := fun h => by have := hbp1.mpr ⟨h.1, h.2.1⟩; omega
    have hno2 : ¬ ((σ (0, 0) 6 = 1 ∧ el_i 4 x ∧ el_i (zz_N z) y) ∧ S (el_v x) (el_v y)) := fun h => hno h.1
    refine nw_iconst X 0 d_Top_has_33 (by decide) ?_
    exact hret 0 _ _ _ _ _ d_Top_has_34 V (by decide) ⟨rfl, (cn_f hno2).symm⟩
  · skip
    refine nw_aload_n X d_Top_has_8 rfl (lv_at hl 0 rfl) ?_
    refine nw_iload_n X d_Top_has_9 rfl (lv_at hl 2 rfl) ?_
    refine hw_calli X V (hz (0, 0) rfl) rfl rfl (cm_Top_isElement l z σ hz S hC y) cs_Top_91 (by decide) rfl hl.1 rfl (Nat.le_of_ble_eq_true rfl) (by decide) d_Top_has_10 (fun r σ' H locs V hr => ?_)
    obtain ⟨b2, hb2, rfl, hσ, hbp2⟩ := hr
    rw [hσ] at V
    clear hσ
    have hB := V.1.2.2
    refine nw_if_eq X (tgt := 33) d_Top_has_13 (by decide) (by omega) (fun hc2 => ?_) (fun hc2 => ?_)
    · skip
      have hno : ¬ (σ (0, 0) 6 = 1 ∧ el_i 4 x ∧ el_i (zz_N z) y) := fun h => by have := hbp2.mpr ⟨h.1, h.2.2⟩; omega
      have hno2 : ¬ ((σ (0, 0) 6 = 1 ∧ el_i 4 x ∧ el_i (zz_N z) y) ∧ S (el_v x) (el_v y)) := fun h => hno h.1
      refine nw_iconst X 0 d_Top_has_33 (by decide) ?_
      exact hret 0 _ _ _ _ _ d_Top_has_34 V (by decide) ⟨rfl, (cn_f hno2).symm⟩
    · skip
      obtain ⟨hf1, s9, hs, rfl⟩ := hbp1.mp (by omega)
      obtain ⟨hL, hpl, qw, bw, hGw, hwl⟩ := hfx hf1
      have g := lo_gp hL
      obtain ⟨q, b9, hG, hT⟩ := hpl s9 hs
      have ev : el_v (nI s9) = s9 := el_nv (by omega) hs
      obtain ⟨-, a, ha, rfl⟩ := hbp2.mp (by omega)
      have ev2 : el_v (nI a) = a := el_nv (by omega) ha
      refine nw_aload_n X d_Top_has_16 rfl (lv_at hl 0 rfl) ?_
      refine gf_Top_24 X V (hz (0, 0) rfl) d_Top_has_17 ?_
      refine nw_iload_n X d_Top_has_20 rfl (lv_at hl 1 rfl) ?_
      refine hw_aald X V (hz (11, 0) rfl) 3 rfl rfl rfl hs (by decide) rfl d_Top_has_21 ?_
      refine nw_iload_n X d_Top_has_22 rfl (lv_at hl 2 rfl) ?_
      refine hw_calli X V (hz (12, s9) (show s9 < 7 by first | assumption | omega)) rfl rfl (cm_Sub_holds l z σ hz s9 (by omega) hN q hG.1.1 a ha) cs_Top_135 (by decide) rfl hl.1 rfl (Nat.le_of_ble_eq_true rfl) (by decide) d_Top_has_23 (fun r σ' H locs V hr => ?_)
      obtain ⟨b3, hb3, rfl, hσ, hbp3⟩ := hr
      rw [hσ] at V
      clear hσ
      have hB := V.1.2.2
      refine nw_if_eq X (tgt := 33) d_Top_has_26 (by decide) (by omega) (fun hc3 => ?_) (fun hc3 => ?_)
      · skip
        have hno2 : ¬ ((σ (0, 0) 6 = 1 ∧ el_i 4 (nI s9) ∧ el_i (zz_N z) (nI a)) ∧ S (el_v (nI s9)) (el_v (nI a))) := fun h => by
          have h2 := h.2
          rw [ev, ev2] at h2
          rw [if_pos ((hT a).mpr h2)] at hbp3
          omega
        refine nw_iconst X 0 d_Top_has_33 (by decide) ?_
        exact hret 0 _ _ _ _ _ d_Top_has_34 V (by decide) ⟨rfl, (cn_f hno2).symm⟩
      · skip
        have hin : a ∈ q := Classical.byContradiction fun h => hc3 (by rw [hbp3, if_neg h])
        refine nw_iconst X 1 d_Top_has_29 (by decide) ?_
        refine nw_goto X (tgt := 34) d_Top_has_30 (by decide) ?_
        exact hret 1 _ _ _ _ _ d_Top_has_34 V (by decide) ⟨rfl, (cn_t ⟨⟨hf1, ⟨s9, hs, rfl⟩, a, ha, rfl⟩, by rw [ev, ev2]; exact (hT a).mp hin⟩).symm⟩
set_option maxHeartbeats 4000000 in
set_option maxRecDepth 20000 in
theorem cm_Top_clear (l : Launch) (z : zz_Z) (σ : hw_M) (hz : ∀ k, zz_k (zz_n z) k → zz_O z k) (S : Nat → Nat → Prop) (hC : cs_ok z σ S) (x : Int32) : Met l y_Top_clear (hw_c y_Top_clear b_Top_clear 2 (some .int)) (hw_r 2) (va_Pc [.ref (zz_A z (0, 0)), .int x] (zz_B z σ)) (va_Qi (fun r σ' => cs_ok z σ' (sa_t (σ (0, 0) 6 = 1 ∧ el_i 4 x) (el_v x) (fun v => v = 0) S) ∧ cs_q σ σ' ∧ an_o (σ (0, 0) 6 = 1 ∧ el_i 4 x) 1 r) (zz_B z) (zz_F z)) 0 0 (zz_F z) := by
  refine hw_meti (post := (fun r σ' => cs_ok z σ' (sa_t (σ (0, 0) 6 = 1 ∧ el_i 4 x) (el_v x) (fun v => v = 0) S) ∧ cs_q σ σ' ∧ an_o (σ (0, 0) 6 = 1 ∧ el_i 4 x) 1 r)) (by decide) (Nat.le_of_ble_eq_true rfl) ?_
  intro p e s m args below meth c ls Q X hret V hl
  have hl : lv_has ls 2 [(0, .ref (zz_A z (0, 0))), (1, .int x)] := hl
  have hB := V.1.2.2
  obtain ⟨hS, hR, hf2, hes, hfx⟩ := id hC
  obtain ⟨hn7, hN, hn, hNe, hw, hsz, hln⟩ := id hS
  refine nw_aload_n X d_Top_clear_0 rfl (lv_at hl 0 rfl) ?_
  refine nw_iload_n X d_Top_clear_1 rfl (lv_at hl 1 rfl) ?_
  refine hw_calli X V (hz (0, 0) rfl) rfl rfl (cm_Top_isPlace l z σ hz S hC x) cs_Top_115 (by decide) rfl hl.1 rfl (Nat.le_of_ble_eq_true rfl) (by decide) d_Top_clear_2 (fun r σ' H locs V hr => ?_)
  obtain ⟨b1, hb1, rfl, hσ, hbp1⟩ := hr
  rw [hσ] at V
  clear hσ
  have hB := V.1.2.2
  refine nw_if_ne X (tgt := 10) d_Top_clear_5 (by decide) (by omega) (fun hc => ?_) (fun hc => ?_)
  · skip
    obtain ⟨hf1, s9, hs, rfl⟩ := hbp1.mp (by omega)
    obtain ⟨hL, hpl, qw, bw, hGw, hwl⟩ := hfx hf1
    have g := lo_gp hL
    obtain ⟨q, b9, hG, hT⟩ := hpl s9 hs
    have ev : el_v (nI s9) = s9 := el_nv (by omega) hs
    refine nw_aload_n X d_Top_clear_10 rfl (lv_at hl 0 rfl) ?_
    refine gf_Top_24 X V (hz (0, 0) rfl) d_Top_clear_11 ?_
    refine nw_iload_n X d_Top_clear_14 rfl (lv_at hl 1 rfl) ?_
    refine hw_aald X V (hz (11, 0) rfl) 3 rfl rfl rfl hs (by decide) rfl d_Top_clear_15 ?_
    refine hw_callv X V (hz (12, s9) (show s9 < 7 by first | assumption | omega)) rfl rfl (cm_Sub_reset l z σ hz s9 (by omega) hN q hG.1.1 g.pos) cs_Top_85 (by decide) rfl hl.1 rfl (Nat.le_of_ble_eq_true rfl) (by decide) d_Top_clear_16 (fun σ1 H locs V hr => ?_)
    obtain ⟨e1, f1⟩ := hr
    have hB := V.1.2.2
    refine nw_aload_n X d_Top_clear_19 rfl (lv_at hl 0 rfl) ?_
    refine gf_Top_24 X V (hz (0, 0) rfl) d_Top_clear_20 ?_
    refine nw_iload_n X d_Top_clear_23 rfl (lv_at hl 1 rfl) ?_
    refine hw_aald X V (hz (11, 0) rfl) 3 rfl rfl rfl hs (by decide) rfl d_Top_clear_24 ?_
    refine hw_calli X V (hz (12, s9) (show s9 < 7 by first | assumption | omega)) rfl rfl (cm_Sub_amount l z σ1 hz s9 (by omega) hN [0] e1.1) cs_Top_118 (by decide) rfl hl.1 rfl (Nat.le_of_ble_eq_true rfl) (by decide) d_Top_clear_25 (fun r σ' H locs V hr => ?_)
    obtain ⟨hσ, rfl⟩ := hr
    rw [hσ] at V
    clear hσ
    have hB := V.1.2.2
    exact hret _ _ _ _ _ _ d_Top_clear_28 V ⟨by rw [ev]; exact cs_put hC hf1 hs f1 ⟨hf1, s9, hs, rfl⟩ (sg_gp0 g e1) (fun x => List.mem_singleton), f1.cq, fun _ => rfl, fun h => absurd ⟨hf1, s9, hs, rfl⟩ h⟩
  · skip
    have hno : ¬ (σ (0, 0) 6 = 1 ∧ el_i 4 x) := fun h => by have := hbp1.mpr h; omega
    refine nw_iconstv X (-1) d_Top_clear_8 (by decide) ?_
    exact hret _ _ _ _ _ _ d_Top_clear_9 V ⟨cs_no hC hno, cs_q.rf, fun h => absurd h hno, fun _ => rfl⟩
set_option maxHeartbeats 4000000 in
set_option maxRecDepth 20000 in
theorem cm_Top_join (l : Launch) (z : zz_Z) (σ : hw_M) (hz : ∀ k, zz_k (zz_n z) k → zz_O z k) (S : Nat → Nat → Prop) (hC : cs_ok z σ S) (x y : Int32) : Met l y_Top_join (hw_c y_Top_join b_Top_join 3 (some .int)) (hw_r 3) (va_Pc [.ref (zz_A z (0, 0)), .int x, .int y] (zz_B z σ)) (va_Qi (fun r σ' => cs_ok z σ' (sa_t (σ (0, 0) 6 = 1 ∧ el_i 4 x ∧ el_i (zz_N z) y) (el_v x) (sp_join (zz_N z) (gr_p z σ) (S (el_v x)) (el_v y)) S) ∧ cs_q σ σ' ∧ an_o (σ (0, 0) 6 = 1 ∧ el_i 4 x ∧ el_i (zz_N z) y) (gp_cd (zz_N z) (sp_join (zz_N z) (gr_p z σ) (S (el_v x)) (el_v y))) r) (zz_B z) (zz_F z)) 0 0 (zz_F z) := by
  refine hw_meti (post := (fun r σ' => cs_ok z σ' (sa_t (σ (0, 0) 6 = 1 ∧ el_i 4 x ∧ el_i (zz_N z) y) (el_v x) (sp_join (zz_N z) (gr_p z σ) (S (el_v x)) (el_v y)) S) ∧ cs_q σ σ' ∧ an_o (σ (0, 0) 6 = 1 ∧ el_i 4 x ∧ el_i (zz_N z) y) (gp_cd (zz_N z) (sp_join (zz_N z) (gr_p z σ) (S (el_v x)) (el_v y))) r)) (by decide) (Nat.le_of_ble_eq_true rfl) ?_
  intro p e s m args below meth c ls Q X hret V hl
  have hl : lv_has ls 3 [(0, .ref (zz_A z (0, 0))), (1, .int x), (2, .int y)] := hl
  have hB := V.1.2.2
  obtain ⟨hS, hR, hf2, hes, hfx⟩ := id hC
  obtain ⟨hn7, hN, hn, hNe, hw, hsz, hln⟩ := id hS
  refine nw_aload_n X d_Top_join_0 rfl (lv_at hl 0 rfl) ?_
  refine nw_iload_n X d_Top_join_1 rfl (lv_at hl 1 rfl) ?_
  refine hw_calli X V (hz (0, 0) rfl) rfl rfl (cm_Top_isPlace l z σ hz S hC x) cs_Top_115 (by decide) rfl hl.1 rfl (Nat.le_of_ble_eq_true rfl) (by decide) d_Top_join_2 (fun r σ' H locs V hr => ?_)
  obtain ⟨b1, hb1, rfl, hσ, hbp1⟩ := hr
  rw [hσ] at V
  clear hσ
  have hB := V.1.2.2
  refine nw_if_eq X (tgt := 16) d_Top_join_5 (by decide) (by omega) (fun hc1 => ?_) (fun hc1 => ?_)
  · skip
    have hno : ¬ (σ (0, 0) 6 = 1 ∧ el_i 4 x ∧ el_i (zz_N z) y) := fun h => by have := hbp1.mpr ⟨h.1, h.2.1⟩; omega
    refine nw_iconstv X (-1) d_Top_join_16 (by decide) ?_
    exact hret _ _ _ _ _ _ d_Top_join_17 V ⟨cs_no hC hno, cs_q.rf, fun h => absurd h hno, fun _ => rfl⟩
  · skip
    refine nw_aload_n X d_Top_join_8 rfl (lv_at hl 0 rfl) ?_
    refine nw_iload_n X d_Top_join_9 rfl (lv_at hl 2 rfl) ?_
    refine hw_calli X V (hz (0, 0) rfl) rfl rfl (cm_Top_isElement l z σ hz S hC y) cs_Top_91 (by decide) rfl hl.1 rfl (Nat.le_of_ble_eq_true rfl) (by decide) d_Top_join_10 (fun r σ' H locs V hr => ?_)
    obtain ⟨b2, hb2, rfl, hσ, hbp2⟩ := hr
    rw [hσ] at V
    clear hσ
    have hB := V.1.2.2
    refine nw_if_ne X (tgt := 18) d_Top_join_13 (by decide) (by omega) (fun hc2 => ?_) (fun hc2 => ?_)
    · skip
      obtain ⟨hf1, s9, hs, rfl⟩ := hbp1.mp (by omega)
      obtain ⟨hL, hpl, qw, bw, hGw, hwl⟩ := hfx hf1
      have g := lo_gp hL
      obtain ⟨q, b9, hG, hT⟩ := hpl s9 hs
      have ev : el_v (nI s9) = s9 := el_nv (by omega) hs
      obtain ⟨-, a, ha, rfl⟩ := hbp2.mp (by omega)
      have ev2 : el_v (nI a) = a := el_nv (by omega) ha
      refine nw_aload_n X d_Top_join_18 rfl (lv_at hl 0 rfl) ?_
      refine gf_Top_24 X V (hz (0, 0) rfl) d_Top_join_19 ?_
      refine nw_iload_n X d_Top_join_22 rfl (lv_at hl 1 rfl) ?_
      refine hw_aald X V (hz (11, 0) rfl) 3 rfl rfl rfl hs (by decide) rfl d_Top_join_23 ?_
      refine nw_iload_n X d_Top_join_24 rfl (lv_at hl 2 rfl) ?_
      refine hw_callv X V (hz (12, s9) (show s9 < 7 by first | assumption | omega)) rfl rfl (cm_Sub_include l z σ hz s9 (by omega) hL q b9 hG a ha) cs_Top_121 (by decide) rfl hl.1 rfl (Nat.le_of_ble_eq_true rfl) (by decide) d_Top_join_25 (fun σ1 H locs V hr => ?_)
      obtain ⟨q2, c2, hG2, hin2, hc9, f1⟩ := hr
      have hB := V.1.2.2
      have hJ := sg_join hG hT hG2 hin2 hc9 g
      refine nw_aload_n X d_Top_join_28 rfl (lv_at hl 0 rfl) ?_
      refine gf_Top_24 X V (hz (0, 0) rfl) d_Top_join_29 ?_
      refine nw_iload_n X d_Top_join_32 rfl (lv_at hl 1 rfl) ?_
      refine hw_aald X V (hz (11, 0) rfl) 3 rfl rfl rfl hs (by decide) rfl d_Top_join_33 ?_
      refine hw_calli X V (hz (12, s9) (show s9 < 7 by first | assumption | omega)) rfl rfl (cm_Sub_amount l z σ1 hz s9 (by omega) hN q2 hG2.1.1) cs_Top_118 (by decide) rfl hl.1 rfl (Nat.le_of_ble_eq_true rfl) (by decide) d_Top_join_34 (fun r σ' H locs V hr => ?_)
      obtain ⟨hσ, rfl⟩ := hr
      rw [hσ] at V
      clear hσ
      have hB := V.1.2.2
      exact hret _ _ _ _ _ _ d_Top_join_37 V (by
        rw [ev, ev2]
        exact ⟨cs_put hC hf1 hs f1 ⟨hf1, ⟨s9, hs, rfl⟩, a, ha, rfl⟩ hG2 hJ, f1.cq, fun _ => by rw [cs_cnt hG2 hJ], fun h => absurd ⟨hf1, ⟨s9, hs, rfl⟩, a, ha, rfl⟩ h⟩)
    · skip
      have hno : ¬ (σ (0, 0) 6 = 1 ∧ el_i 4 x ∧ el_i (zz_N z) y) := fun h => by have := hbp2.mpr ⟨h.1, h.2.2⟩; omega
      refine nw_iconstv X (-1) d_Top_join_16 (by decide) ?_
      exact hret _ _ _ _ _ _ d_Top_join_17 V ⟨cs_no hC hno, cs_q.rf, fun h => absurd h hno, fun _ => rfl⟩
set_option maxHeartbeats 4000000 in
set_option maxRecDepth 20000 in
theorem cm_Top_spread (l : Launch) (z : zz_Z) (σ : hw_M) (hz : ∀ k, zz_k (zz_n z) k → zz_O z k) (S : Nat → Nat → Prop) (hC : cs_ok z σ S) (x : Int32) : Met l y_Top_spread (hw_c y_Top_spread b_Top_spread 2 (some .int)) (hw_r 5) (va_Pc [.ref (zz_A z (0, 0)), .int x] (zz_B z σ)) (va_Qi (fun r σ' => cs_ok z σ' (sa_t (σ (0, 0) 6 = 1 ∧ el_i 4 x) (el_v x) (sp_spread (zz_N z) (gr_p z σ) (S (el_v x))) S) ∧ cs_q σ σ' ∧ an_o (σ (0, 0) 6 = 1 ∧ el_i 4 x) (gp_cd (zz_N z) (sp_spread (zz_N z) (gr_p z σ) (S (el_v x)))) r) (zz_B z) (zz_F z)) 0 0 (zz_F z) := by
  refine hw_meti (post := (fun r σ' => cs_ok z σ' (sa_t (σ (0, 0) 6 = 1 ∧ el_i 4 x) (el_v x) (sp_spread (zz_N z) (gr_p z σ) (S (el_v x))) S) ∧ cs_q σ σ' ∧ an_o (σ (0, 0) 6 = 1 ∧ el_i 4 x) (gp_cd (zz_N z) (sp_spread (zz_N z) (gr_p z σ) (S (el_v x)))) r)) (by decide) (Nat.le_of_ble_eq_true rfl) ?_
  intro p e s m args below meth c ls Q X hret V hl
  have hl : lv_has ls 2 [(0, .ref (zz_A z (0, 0))), (1, .int x)] := hl
  have hB := V.1.2.2
  obtain ⟨hS, hR, hf2, hes, hfx⟩ := id hC
  obtain ⟨hn7, hN, hn, hNe, hw, hsz, hln⟩ := id hS
  refine nw_aload_n X d_Top_spread_0 rfl (lv_at hl 0 rfl) ?_
  refine nw_iload_n X d_Top_spread_1 rfl (lv_at hl 1 rfl) ?_
  refine hw_calli X V (hz (0, 0) rfl) rfl rfl (cm_Top_isPlace l z σ hz S hC x) cs_Top_115 (by decide) rfl hl.1 rfl (Nat.le_of_ble_eq_true rfl) (by decide) d_Top_spread_2 (fun r σ' H locs V hr => ?_)
  obtain ⟨b1, hb1, rfl, hσ, hbp1⟩ := hr
  rw [hσ] at V
  clear hσ
  have hB := V.1.2.2
  refine nw_if_ne X (tgt := 10) d_Top_spread_5 (by decide) (by omega) (fun hc => ?_) (fun hc => ?_)
  · skip
    obtain ⟨hf1, s9, hs, rfl⟩ := hbp1.mp (by omega)
    obtain ⟨hL, hpl, qw, bw, hGw, hwl⟩ := hfx hf1
    have g := lo_gp hL
    obtain ⟨q, b9, hG, hT⟩ := hpl s9 hs
    have ev : el_v (nI s9) = s9 := el_nv (by omega) hs
    refine nw_aload_n X d_Top_spread_10 rfl (lv_at hl 0 rfl) ?_
    refine gf_Top_24 X V (hz (0, 0) rfl) d_Top_spread_11 ?_
    refine nw_iload_n X d_Top_spread_14 rfl (lv_at hl 1 rfl) ?_
    refine hw_aald X V (hz (11, 0) rfl) 3 rfl rfl rfl hs (by decide) rfl d_Top_spread_15 ?_
    refine nw_aload_n X d_Top_spread_16 rfl (lv_at hl 0 rfl) ?_
    refine gf_Top_31 X V (hz (0, 0) rfl) d_Top_spread_17 ?_
    refine hw_callv X V (hz (12, s9) (show s9 < 7 by first | assumption | omega)) rfl rfl (cm_Sub_includeAllConjugates l z σ hz s9 (by omega) hL q b9 hG 4 (by decide) (by omega) qw bw hGw.1) cs_Top_124 (by decide) rfl hl.1 rfl (Nat.le_of_ble_eq_true rfl) (by decide) d_Top_spread_20 (fun σ1 H locs V hr => ?_)
    obtain ⟨q2, c2, hG2, h91, h92, h93, f1⟩ := hr
    have hB := V.1.2.2
    have hJ := sg_spread g hG hT hG2 hGw hwl h91 h92 h93
    refine nw_aload_n X d_Top_spread_23 rfl (lv_at hl 0 rfl) ?_
    refine gf_Top_24 X V (hz (0, 0) rfl) d_Top_spread_24 ?_
    refine nw_iload_n X d_Top_spread_27 rfl (lv_at hl 1 rfl) ?_
    refine hw_aald X V (hz (11, 0) rfl) 3 rfl rfl rfl hs (by decide) rfl d_Top_spread_28 ?_
    refine hw_calli X V (hz (12, s9) (show s9 < 7 by first | assumption | omega)) rfl rfl (cm_Sub_amount l z σ1 hz s9 (by omega) hN q2 hG2.1.1) cs_Top_118 (by decide) rfl hl.1 rfl (Nat.le_of_ble_eq_true rfl) (by decide) d_Top_spread_29 (fun r σ' H locs V hr => ?_)
    obtain ⟨hσ, rfl⟩ := hr
    rw [hσ] at V
    clear hσ
    have hB := V.1.2.2
    exact hret _ _ _ _ _ _ d_Top_spread_32 V (by
      rw [ev]
      exact ⟨cs_put hC hf1 hs f1 ⟨hf1, s9, hs, rfl⟩ hG2 hJ, f1.cq, fun _ => by rw [cs_cnt hG2 hJ], fun h => absurd ⟨hf1, s9, hs, rfl⟩ h⟩)
  · skip
    have hno : ¬ (σ (0, 0) 6 = 1 ∧ el_i 4 x) := fun h => by have := hbp1.mpr h; omega
    refine nw_iconstv X (-1) d_Top_spread_8 (by decide) ?_
    exact hret _ _ _ _ _ _ d_Top_spread_9 V ⟨cs_no hC hno, cs_q.rf, fun h => absurd h hno, fun _ => rfl⟩
set_option maxHeartbeats 4000000 in
set_option maxRecDepth 20000 in
theorem cm_Top_commute (l : Launch) (z : zz_Z) (σ : hw_M) (hz : ∀ k, zz_k (zz_n z) k → zz_O z k) (S : Nat → Nat → Prop) (hC : cs_ok z σ S) (x y t : Int32) : Met l y_Top_commute (hw_c y_Top_commute b_Top_commute 4 (some .int)) (hw_r 5) (va_Pc [.ref (zz_A z (0, 0)), .int x, .int y, .int t] (zz_B z σ)) (va_Qi (fun r σ' => cs_ok z σ' (sa_t (σ (0, 0) 6 = 1 ∧ el_i 4 x ∧ el_i 4 y ∧ el_i 4 t) (el_v t) (gp_cs (zz_N z) (gr_p z σ) (S (el_v x)) (S (el_v y))) S) ∧ cs_q σ σ' ∧ an_o (σ (0, 0) 6 = 1 ∧ el_i 4 x ∧ el_i 4 y ∧ el_i 4 t) (gp_cd (zz_N z) (gp_cs (zz_N z) (gr_p z σ) (S (el_v x)) (S (el_v y)))) r) (zz_B z) (zz_F z)) 0 0 (zz_F z) := by
  refine hw_meti (post := (fun r σ' => cs_ok z σ' (sa_t (σ (0, 0) 6 = 1 ∧ el_i 4 x ∧ el_i 4 y ∧ el_i 4 t) (el_v t) (gp_cs (zz_N z) (gr_p z σ) (S (el_v x)) (S (el_v y))) S) ∧ cs_q σ σ' ∧ an_o (σ (0, 0) 6 = 1 ∧ el_i 4 x ∧ el_i 4 y ∧ el_i 4 t) (gp_cd (zz_N z) (gp_cs (zz_N z) (gr_p z σ) (S (el_v x)) (S (el_v y)))) r)) (by decide) (Nat.le_of_ble_eq_true rfl) ?_
  intro p e s m args below meth c ls Q X hret V hl
  have hl : lv_has ls 4 [(0, .ref (zz_A z (0, 0))), (1, .int x), (2, .int y), (3, .int t)] := hl
  have hB := V.1.2.2
  obtain ⟨hS, hR, hf2, hes, hfx⟩ := id hC
  obtain ⟨hn7, hN, hn, hNe, hw, hsz, hln⟩ := id hS
  refine nw_aload_n X d_Top_commute_0 rfl (lv_at hl 0 rfl) ?_
  refine nw_iload_n X d_Top_commute_1 rfl (lv_at hl 1 rfl) ?_
  refine hw_calli X V (hz (0, 0) rfl) rfl rfl (cm_Top_isPlace l z σ hz S hC x) cs_Top_115 (by decide) rfl hl.1 rfl (Nat.le_of_ble_eq_true rfl) (by decide) d_Top_commute_2 (fun r σ' H locs V hr => ?_)
  obtain ⟨b1, hb1, rfl, hσ, hbp1⟩ := hr
  rw [hσ] at V
  clear hσ
  have hB := V.1.2.2
  refine nw_if_eq X (tgt := 24) d_Top_commute_5 (by decide) (by omega) (fun hc1 => ?_) (fun hc1 => ?_)
  · skip
    have hno : ¬ (σ (0, 0) 6 = 1 ∧ el_i 4 x ∧ el_i 4 y ∧ el_i 4 t) := fun h => by have := hbp1.mpr ⟨h.1, h.2.1⟩; omega
    refine nw_iconstv X (-1) d_Top_commute_24 (by decide) ?_
    exact hret _ _ _ _ _ _ d_Top_commute_25 V ⟨cs_no hC hno, cs_q.rf, fun h => absurd h hno, fun _ => rfl⟩
  · skip
    refine nw_aload_n X d_Top_commute_8 rfl (lv_at hl 0 rfl) ?_
    refine nw_iload_n X d_Top_commute_9 rfl (lv_at hl 2 rfl) ?_
    refine hw_calli X V (hz (0, 0) rfl) rfl rfl (cm_Top_isPlace l z σ hz S hC y) cs_Top_115 (by decide) rfl hl.1 rfl (Nat.le_of_ble_eq_true rfl) (by decide) d_Top_commute_10 (fun r σ' H locs V hr => ?_)
    obtain ⟨b2, hb2, rfl, hσ, hbp2⟩ := hr
    rw [hσ] at V
    clear hσ
    have hB := V.1.2.2
    refine nw_if_eq X (tgt := 24) d_Top_commute_13 (by decide) (by omega) (fun hc2 => ?_) (fun hc2 => ?_)
    · skip
      have hno : ¬ (σ (0, 0) 6 = 1 ∧ el_i 4 x ∧ el_i 4 y ∧ el_i 4 t) := fun h => by have := hbp2.mpr ⟨h.1, h.2.2.1⟩; omega
      refine nw_iconstv X (-1) d_Top_commute_24 (by decide) ?_
      exact hret _ _ _ _ _ _ d_Top_commute_25 V ⟨cs_no hC hno, cs_q.rf, fun h => absurd h hno, fun _ => rfl⟩
    · skip
      refine nw_aload_n X d_Top_commute_16 rfl (lv_at hl 0 rfl) ?_
      refine nw_iload_n X d_Top_commute_17 rfl (lv_at hl 3 rfl) ?_
      refine hw_calli X V (hz (0, 0) rfl) rfl rfl (cm_Top_isPlace l z σ hz S hC t) cs_Top_115 (by decide) rfl hl.1 rfl (Nat.le_of_ble_eq_true rfl) (by decide) d_Top_commute_18 (fun r σ' H locs V hr => ?_)
      obtain ⟨b3, hb3, rfl, hσ, hbp3⟩ := hr
      rw [hσ] at V
      clear hσ
      have hB := V.1.2.2
      refine nw_if_ne X (tgt := 26) d_Top_commute_21 (by decide) (by omega) (fun hc3 => ?_) (fun hc3 => ?_)
      · skip
        obtain ⟨hf1, s9, hs, rfl⟩ := hbp1.mp (by omega)
        obtain ⟨-, t9, ht9, rfl⟩ := hbp2.mp (by omega)
        obtain ⟨-, u9, hu9, rfl⟩ := hbp3.mp (by omega)
        obtain ⟨hL, hpl, qw, bw, hGw, hwl⟩ := hfx hf1
        have g := lo_gp hL
        obtain ⟨q, b9, hG, hT⟩ := hpl s9 hs
        obtain ⟨qt, bt, hGt, hTt⟩ := hpl t9 ht9
        obtain ⟨qu, bu, hGu, hTu⟩ := hpl u9 hu9
        obtain ⟨q6, hq6⟩ := hes 6 (by decide)
        have ev : el_v (nI s9) = s9 := el_nv (by omega) hs
        have ev2 : el_v (nI t9) = t9 := el_nv (by omega) ht9
        have ev3 : el_v (nI u9) = u9 := el_nv (by omega) hu9
        refine nw_aload_n X d_Top_commute_26 rfl (lv_at hl 0 rfl) ?_
        refine gf_Top_38 X V (hz (0, 0) rfl) d_Top_commute_27 ?_
        refine nw_aload_n X d_Top_commute_30 rfl (lv_at hl 0 rfl) ?_
        refine gf_Top_24 X V (hz (0, 0) rfl) d_Top_commute_31 ?_
        refine nw_iload_n X d_Top_commute_34 rfl (lv_at hl 1 rfl) ?_
        refine hw_aald X V (hz (11, 0) rfl) 3 rfl rfl rfl hs (by decide) rfl d_Top_commute_35 ?_
        refine nw_aload_n X d_Top_commute_36 rfl (lv_at hl 0 rfl) ?_
        refine gf_Top_24 X V (hz (0, 0) rfl) d_Top_commute_37 ?_
        refine nw_iload_n X d_Top_commute_40 rfl (lv_at hl 2 rfl) ?_
        refine hw_aald X V (hz (11, 0) rfl) 3 rfl rfl rfl ht9 (by decide) rfl d_Top_commute_41 ?_
        refine hw_callv X V (hz (12, 6) (show 6 < 7 by first | assumption | omega)) rfl rfl (cm_Sub_becomeCommutators l z σ hz 6 (by decide) hL q6 hq6 s9 (by omega) (by omega) q b9 hG.1 t9 (by omega) (by omega) qt bt hGt.1) cs_Top_128 (by decide) rfl hl.1 rfl (Nat.le_of_ble_eq_true rfl) (by decide) d_Top_commute_42 (fun σ1 H locs V hr => ?_)
        obtain ⟨q2, c2, hG2, hx2, f1⟩ := hr
        have hB := V.1.2.2
        have hJ := sg_csT hG hGt hT hTt hx2
        refine nw_aload_n X d_Top_commute_45 rfl (lv_at hl 0 rfl) ?_
        refine gf_Top_24 X V (hz (0, 0) rfl) d_Top_commute_46 ?_
        refine nw_iload_n X d_Top_commute_49 rfl (lv_at hl 3 rfl) ?_
        refine hw_aald X V (hz (11, 0) rfl) 3 rfl rfl rfl hu9 (by decide) rfl d_Top_commute_50 ?_
        refine nw_aload_n X d_Top_commute_51 rfl (lv_at hl 0 rfl) ?_
        refine gf_Top_38 X V (hz (0, 0) rfl) d_Top_commute_52 ?_
        refine hw_callv X V (hz (12, u9) (show u9 < 7 by first | assumption | omega)) rfl rfl (cm_Sub_becomeCopy l z σ1 hz u9 (by omega) hN qu (sg_oth hGu.1 f1 (by omega)).1 6 (by decide) (by omega) q2 c2 hG2.1) cs_Top_132 (by decide) rfl hl.1 rfl (Nat.le_of_ble_eq_true rfl) (by decide) d_Top_commute_55 (fun σ2 H locs V hr => ?_)
        obtain ⟨hG3, f2⟩ := hr
        have hB := V.1.2.2
        have hG3 : sg_gp z (gr_p z σ) σ2 u9 q2 c2 := ⟨hG3, hG2.2⟩
        refine nw_aload_n X d_Top_commute_58 rfl (lv_at hl 0 rfl) ?_
        refine gf_Top_24 X V (hz (0, 0) rfl) d_Top_commute_59 ?_
        refine nw_iload_n X d_Top_commute_62 rfl (lv_at hl 3 rfl) ?_
        refine hw_aald X V (hz (11, 0) rfl) 3 rfl rfl rfl hu9 (by decide) rfl d_Top_commute_63 ?_
        refine hw_calli X V (hz (12, u9) (show u9 < 7 by first | assumption | omega)) rfl rfl (cm_Sub_amount l z σ2 hz u9 (by omega) hN q2 hG3.1.1) cs_Top_118 (by decide) rfl hl.1 rfl (Nat.le_of_ble_eq_true rfl) (by decide) d_Top_commute_64 (fun r σ' H locs V hr => ?_)
        obtain ⟨hσ, rfl⟩ := hr
        rw [hσ] at V
        clear hσ
        have hB := V.1.2.2
        exact hret _ _ _ _ _ _ d_Top_commute_67 V (by
          rw [ev, ev2, ev3]
          have h6 := cs_side hC hf1 (by decide) f1 ⟨q2, hG2.1.1⟩
          have h7 := cs_put h6.1 h6.2.1 hu9 f2 (P := σ (0, 0) 6 = 1 ∧ el_i 4 (nI s9) ∧ el_i 4 (nI t9) ∧ el_i 4 (nI u9)) ⟨hf1, ⟨s9, hs, rfl⟩, ⟨t9, ht9, rfl⟩, u9, hu9, rfl⟩ (by rw [h6.2.2]; exact hG3) hJ
          exact ⟨h7, f1.cq.tr f2.cq, fun _ => by rw [cs_cnt hG3 hJ], fun h => absurd ⟨hf1, ⟨s9, hs, rfl⟩, ⟨t9, ht9, rfl⟩, u9, hu9, rfl⟩ h⟩)
      · skip
        have hno : ¬ (σ (0, 0) 6 = 1 ∧ el_i 4 x ∧ el_i 4 y ∧ el_i 4 t) := fun h => by have := hbp3.mpr ⟨h.1, h.2.2.2⟩; omega
        refine nw_iconstv X (-1) d_Top_commute_24 (by decide) ?_
        exact hret _ _ _ _ _ _ d_Top_commute_25 V ⟨cs_no hC hno, cs_q.rf, fun h => absurd h hno, fun _ => rfl⟩
