/-! The class: series, centre, classes. By program (wip/whole/gen/top3.py). -/
set_option maxHeartbeats 4000000 in
set_option maxRecDepth 20000 in
theorem cm_Top_seriesAmount5 (l : Launch) (z : zz_Z) (σ : hw_M) (hz : ∀ k, zz_k (zz_n z) k → zz_O z k) (S : Nat → Nat → Prop) (hC : cs_ok z σ S) (x : Int32) : Met l y_Top_seriesAmount (hw_c y_Top_seriesAmount b_Top_seriesAmount 4 (some .int)) (hw_r 5) (va_Pc [.ref (zz_A z (0, 0)), .int x, .ref (zz_A z (12, 5))] (zz_B z σ)) (va_Qi (fun r σ' => cs_ok z σ' S ∧ cs_q σ σ' ∧ an_o (σ (0, 0) 6 = 1 ∧ ¬ x < 0) (gp_cd (zz_N z) (sp_ser (zz_N z) (gr_p z σ) false (min (el_v x) 7))) r) (zz_B z) (zz_F z)) 0 0 (zz_F z) := by
  refine hw_meti (post := (fun r σ' => cs_ok z σ' S ∧ cs_q σ σ' ∧ an_o (σ (0, 0) 6 = 1 ∧ ¬ x < 0) (gp_cd (zz_N z) (sp_ser (zz_N z) (gr_p z σ) false (min (el_v x) 7))) r)) (by decide) (Nat.le_of_ble_eq_true rfl) ?_
  intro p e s m args below meth c ls Q X hret V hl
  have hl : lv_has ls 4 [(0, .ref (zz_A z (0, 0))), (1, .int x), (2, .ref (zz_A z (12, 5)))] := hl
  have hB := V.1.2.2
  obtain ⟨hS, hR, hf2, hes, hfx⟩ := id hC
  obtain ⟨hn7, hN, hn, hNe, hw, hsz, hln⟩ := id hS
  refine nw_aload_n X d_Top_seriesAmount_0 rfl (lv_at hl 0 rfl) ?_
  refine gf_Top_54 X V (hz (0, 0) rfl) d_Top_seriesAmount_1 ?_
  refine nw_if_eq X (tgt := 11) d_Top_seriesAmount_4 (by decide) (by omega) (fun hc => ?_) (fun hc => ?_)
  · skip
    have hno : ¬ (σ (0, 0) 6 = 1 ∧ ¬ x < 0) := fun h => by omega
    refine nw_iconstv X (-1) d_Top_seriesAmount_11 (by decide) ?_
    exact hret _ _ _ _ _ _ d_Top_seriesAmount_12 V ⟨hC, cs_q.rf, fun h => absurd h hno, fun _ => rfl⟩
  · skip
    have hf1 : σ (0, 0) 6 = 1 := by omega
    obtain ⟨hL, hpl, qw, bw, hGw, hwl⟩ := hfx hf1
    have g := lo_gp hL
    refine nw_iload_n X d_Top_seriesAmount_7 rfl (lv_at hl 1 rfl) ?_
    refine lv_if_ge (tgt := 13) X.1.1 X.1.2.1 d_Top_seriesAmount_8 (by decide) (fun h0 => ?_) (fun h0 => ?_)
    · skip
      have hx0 : ¬ x < 0 := Int32.not_lt.mpr h0
      obtain ⟨k, hk9, rfl⟩ := nI_of hx0
      obtain ⟨q5, hq5⟩ := hes 5 (by decide)
      obtain ⟨q60, hq60⟩ := hes 6 (by decide)
      refine nw_aload_n X d_Top_seriesAmount_13 rfl (lv_at hl 0 rfl) ?_
      refine gf_Top_35 X V (hz (0, 0) rfl) d_Top_seriesAmount_14 ?_
      refine nw_aload_n X d_Top_seriesAmount_17 rfl (lv_at hl 0 rfl) ?_
      refine gf_Top_31 X V (hz (0, 0) rfl) d_Top_seriesAmount_18 ?_
      refine hw_callv X V (hz (12, 5) (show 5 < 7 by first | assumption | omega)) rfl rfl (cm_Sub_becomeCopy l z σ hz 5 (by decide) hN q5 hq5 4 (by decide) (by decide) qw bw hGw.1) cs_Top_132 (by decide) rfl hl.1 rfl (Nat.le_of_ble_eq_true rfl) (by decide) d_Top_seriesAmount_21 (fun σ0 H locs V hr => ?_)
      obtain ⟨e0, f0⟩ := hr
      have hB := V.1.2.2
      have hG50 : sg_gp z (gr_p z σ) σ0 5 qw bw := ⟨e0, hGw.2⟩
      refine nw_iconst X 0 d_Top_seriesAmount_24 (by decide) ?_
      refine nw_istore_n X (lv' := [(3, _), (0, _), (1, _), (2, _)]) d_Top_seriesAmount_25 rfl hl (by decide) rfl (fun ls hl => ?_)
      have LP26 : ∀ (d t : Nat) (q1 c1 q6 : List Nat) (σ1 : hw_M) (H : Heap) (locs : List Loc) (ls : Array Slot), 7 - t < d → (t ≤ 7) → (t ≤ k) → (fr_56 σ σ1) → (sg_gp z (gr_p z σ) σ1 5 q1 c1) → (∀ x, x ∈ q1 ↔ sp_ser (zz_N z) (gr_p z σ) false t x) → (es_ok z σ1 6 q6) → zz_V z σ1 s.heap H locs →  lv_has ls 4 [(0, .ref (zz_A z (0, 0))), (1, .int (nI k)), (2, .ref (zz_A z (12, 5))), (3, .int (nI t))] →  W p l e (hw_r 5) s m args below meth c H locs 0 0 Q (F0 m 26 ls []) := by
        intro d
        induction d with
        | zero => intro t q1 c1 q6 σ1 H locs ls hd; exact absurd hd (Nat.not_lt_zero _)
        | succ d IH26 =>
          intro t q1 c1 q6 σ1 H locs ls hd ht7 htk hfr hG5 hT5 hq6 V hl
          have hB := V.1.2.2
          have hLo := hfr.cq.lo hL
          refine nw_iload_n X d_Top_seriesAmount_26 rfl (lv_at hl 3 rfl) ?_
          refine nw_iload_n X d_Top_seriesAmount_27 rfl (lv_at hl 1 rfl) ?_
          refine nw_icmp_ge X (tgt := 66) d_Top_seriesAmount_28 (by decide) (by omega) hk9 (fun hck => ?_) (fun hck => ?_)
          · skip
            refine nw_aload_n X d_Top_seriesAmount_66 rfl (lv_at hl 0 rfl) ?_
            refine gf_Top_35 X V (hz (0, 0) rfl) d_Top_seriesAmount_67 ?_
            refine hw_calli X V (hz (12, 5) (show 5 < 7 by first | assumption | omega)) rfl rfl (cm_Sub_amount l z σ1 hz 5 (by decide) hN q1 hG5.1.1) cs_Top_118 (by decide) rfl hl.1 rfl (Nat.le_of_ble_eq_true rfl) (by decide) d_Top_seriesAmount_70 (fun r σ' H locs V hr => ?_)
            obtain ⟨hσ, rfl⟩ := hr
            rw [hσ] at V
            clear hσ
            have hB := V.1.2.2
            exact hret _ _ _ _ _ _ d_Top_seriesAmount_73 V ⟨cs_56 hC hf1 hfr ⟨q1, hG5.1.1⟩ ⟨q6, hq6⟩, hfr.cq, fun _ => by rw [show el_v (nI k) = k from nI_clamp hk9, show min k 7 = t by omega, cs_cnt hG5 hT5], fun h => absurd ⟨hf1, hx0⟩ h⟩
          · skip
            refine nw_iload_n X d_Top_seriesAmount_31 rfl (lv_at hl 3 rfl) ?_
            refine nw_bipush X 7 d_Top_seriesAmount_32 (by decide) ?_
            refine nw_icmp_ge X (tgt := 66) d_Top_seriesAmount_34 (by decide) (by omega) (by decide) (fun hc7 => ?_) (fun hc7 => ?_)
            · skip
              refine nw_aload_n X d_Top_seriesAmount_66 rfl (lv_at hl 0 rfl) ?_
              refine gf_Top_35 X V (hz (0, 0) rfl) d_Top_seriesAmount_67 ?_
              refine hw_calli X V (hz (12, 5) (show 5 < 7 by first | assumption | omega)) rfl rfl (cm_Sub_amount l z σ1 hz 5 (by decide) hN q1 hG5.1.1) cs_Top_118 (by decide) rfl hl.1 rfl (Nat.le_of_ble_eq_true rfl) (by decide) d_Top_seriesAmount_70 (fun r σ' H locs V hr => ?_)
              obtain ⟨hσ, rfl⟩ := hr
              rw [hσ] at V
              clear hσ
              have hB := V.1.2.2
              exact hret _ _ _ _ _ _ d_Top_seriesAmount_73 V ⟨cs_56 hC hf1 hfr ⟨q1, hG5.1.1⟩ ⟨q6, hq6⟩, hfr.cq, fun _ => by rw [show el_v (nI k) = k from nI_clamp hk9, show min k 7 = t by omega, cs_cnt hG5 hT5], fun h => absurd ⟨hf1, hx0⟩ h⟩
            · skip
              refine nw_aload_n X d_Top_seriesAmount_37 rfl (lv_at hl 0 rfl) ?_
              refine gf_Top_38 X V (hz (0, 0) rfl) d_Top_seriesAmount_38 ?_
              refine nw_aload_n X d_Top_seriesAmount_41 rfl (lv_at hl 0 rfl) ?_
              refine gf_Top_35 X V (hz (0, 0) rfl) d_Top_seriesAmount_42 ?_
              refine nw_aload_n X d_Top_seriesAmount_45 rfl (lv_at hl 2 rfl) ?_
              refine hw_callv X V (hz (12, 6) (show 6 < 7 by first | assumption | omega)) rfl rfl (cm_Sub_becomeCommutators l z σ1 hz 6 (by decide) hLo.1 q6 hq6 5 (by decide) (by decide) q1 c1 hG5.1 5 (by decide) (by decide) q1 c1 hG5.1) cs_Top_128 (by decide) rfl hl.1 rfl (Nat.le_of_ble_eq_true rfl) (by decide) d_Top_seriesAmount_46 (fun σ2 H locs V hr => ?_)
              obtain ⟨q2, c2, hG2, hx2, f1⟩ := hr
              rw [hLo.2] at hG2 hx2
              have hB := V.1.2.2
              have hJ : ∀ x, x ∈ q2 ↔ sp_ser (zz_N z) (gr_p z σ) false (t + 1) x := sg_csT hG5 hG5 hT5 hT5 hx2
              refine nw_aload_n X d_Top_seriesAmount_49 rfl (lv_at hl 0 rfl) ?_
              refine gf_Top_35 X V (hz (0, 0) rfl) d_Top_seriesAmount_50 ?_
              refine nw_aload_n X d_Top_seriesAmount_53 rfl (lv_at hl 0 rfl) ?_
              refine gf_Top_38 X V (hz (0, 0) rfl) d_Top_seriesAmount_54 ?_
              refine hw_callv X V (hz (12, 5) (show 5 < 7 by first | assumption | omega)) rfl rfl (cm_Sub_becomeCopy l z σ2 hz 5 (by decide) hN q1 (sg_oth hG5.1 f1 (by decide)).1 6 (by decide) (by decide) q2 c2 hG2.1) cs_Top_132 (by decide) rfl hl.1 rfl (Nat.le_of_ble_eq_true rfl) (by decide) d_Top_seriesAmount_57 (fun σ3 H locs V hr => ?_)
              obtain ⟨e3, f2⟩ := hr
              have hB := V.1.2.2
              have hG3 : sg_gp z (gr_p z σ) σ3 5 q2 c2 := ⟨e3, hG2.2⟩
              refine nw_iinc X (lv' := [(3, _), (0, _), (1, _), (2, _)]) (k := 3) 1 d_Top_seriesAmount_60 hl rfl (by decide) (by decide) rfl (fun ls hl => ?_)
              refine nw_goto X (tgt := 26) d_Top_seriesAmount_63 (by decide) ?_
              exact IH26 (t + 1) q2 c2 q2 _ _ _ _ (by omega) hc7 hck ((hfr.tr (fr_56.of6 f1)).tr (fr_56.of5 f2)) hG3 hJ (es_oth hG2.1.1 f2 (by decide)) V (lv_sub hl [1, 2, 3, 0] rfl)
      exact LP26 (7 + 1) 0 qw bw q60 _ _ _ _ (by omega) (Nat.zero_le _) (Nat.zero_le _) (fr_56.of5 f0) hG50 hwl (es_oth hq60 f0 (by decide)) V (lv_sub hl [1, 2, 3, 0] rfl)
    · skip
      have hno : ¬ (σ (0, 0) 6 = 1 ∧ ¬ x < 0) := fun h => h.2 (Int32.not_le.mp h0)
      refine nw_iconstv X (-1) d_Top_seriesAmount_11 (by decide) ?_
      exact hret _ _ _ _ _ _ d_Top_seriesAmount_12 V ⟨hC, cs_q.rf, fun h => absurd h hno, fun _ => rfl⟩
set_option maxHeartbeats 4000000 in
set_option maxRecDepth 20000 in
theorem cm_Top_seriesAmount4 (l : Launch) (z : zz_Z) (σ : hw_M) (hz : ∀ k, zz_k (zz_n z) k → zz_O z k) (S : Nat → Nat → Prop) (hC : cs_ok z σ S) (x : Int32) : Met l y_Top_seriesAmount (hw_c y_Top_seriesAmount b_Top_seriesAmount 4 (some .int)) (hw_r 5) (va_Pc [.ref (zz_A z (0, 0)), .int x, .ref (zz_A z (12, 4))] (zz_B z σ)) (va_Qi (fun r σ' => cs_ok z σ' S ∧ cs_q σ σ' ∧ an_o (σ (0, 0) 6 = 1 ∧ ¬ x < 0) (gp_cd (zz_N z) (sp_ser (zz_N z) (gr_p z σ) true (min (el_v x) 7))) r) (zz_B z) (zz_F z)) 0 0 (zz_F z) := by
  refine hw_meti (post := (fun r σ' => cs_ok z σ' S ∧ cs_q σ σ' ∧ an_o (σ (0, 0) 6 = 1 ∧ ¬ x < 0) (gp_cd (zz_N z) (sp_ser (zz_N z) (gr_p z σ) true (min (el_v x) 7))) r)) (by decide) (Nat.le_of_ble_eq_true rfl) ?_
  intro p e s m args below meth c ls Q X hret V hl
  have hl : lv_has ls 4 [(0, .ref (zz_A z (0, 0))), (1, .int x), (2, .ref (zz_A z (12, 4)))] := hl
  have hB := V.1.2.2
  obtain ⟨hS, hR, hf2, hes, hfx⟩ := id hC
  obtain ⟨hn7, hN, hn, hNe, hw, hsz, hln⟩ := id hS
  refine nw_aload_n X d_Top_seriesAmount_0 rfl (lv_at hl 0 rfl) ?_
  refine gf_Top_54 X V (hz (0, 0) rfl) d_Top_seriesAmount_1 ?_
  refine nw_if_eq X (tgt := 11) d_Top_seriesAmount_4 (by decide) (by omega) (fun hc => ?_) (fun hc => ?_)
  · skip
    have hno : ¬ (σ (0, 0) 6 = 1 ∧ ¬ x < 0) := fun h => by omega
    refine nw_iconstv X (-1) d_Top_seriesAmount_11 (by decide) ?_
    exact hret _ _ _ _ _ _ d_Top_seriesAmount_12 V ⟨hC, cs_q.rf, fun h => absurd h hno, fun _ => rfl⟩
  · skip
    have hf1 : σ (0, 0) 6 = 1 := by omega
    obtain ⟨hL, hpl, qw, bw, hGw, hwl⟩ := hfx hf1
    have g := lo_gp hL
    refine nw_iload_n X d_Top_seriesAmount_7 rfl (lv_at hl 1 rfl) ?_
    refine lv_if_ge (tgt := 13) X.1.1 X.1.2.1 d_Top_seriesAmount_8 (by decide) (fun h0 => ?_) (fun h0 => ?_)
    · skip
      have hx0 : ¬ x < 0 := Int32.not_lt.mpr h0
      obtain ⟨k, hk9, rfl⟩ := nI_of hx0
      obtain ⟨q5, hq5⟩ := hes 5 (by decide)
      obtain ⟨q60, hq60⟩ := hes 6 (by decide)
      refine nw_aload_n X d_Top_seriesAmount_13 rfl (lv_at hl 0 rfl) ?_
      refine gf_Top_35 X V (hz (0, 0) rfl) d_Top_seriesAmount_14 ?_
      refine nw_aload_n X d_Top_seriesAmount_17 rfl (lv_at hl 0 rfl) ?_
      refine gf_Top_31 X V (hz (0, 0) rfl) d_Top_seriesAmount_18 ?_
      refine hw_callv X V (hz (12, 5) (show 5 < 7 by first | assumption | omega)) rfl rfl (cm_Sub_becomeCopy l z σ hz 5 (by decide) hN q5 hq5 4 (by decide) (by decide) qw bw hGw.1) cs_Top_132 (by decide) rfl hl.1 rfl (Nat.le_of_ble_eq_true rfl) (by decide) d_Top_seriesAmount_21 (fun σ0 H locs V hr => ?_)
      obtain ⟨e0, f0⟩ := hr
      have hB := V.1.2.2
      have hG50 : sg_gp z (gr_p z σ) σ0 5 qw bw := ⟨e0, hGw.2⟩
      refine nw_iconst X 0 d_Top_seriesAmount_24 (by decide) ?_
      refine nw_istore_n X (lv' := [(3, _), (0, _), (1, _), (2, _)]) d_Top_seriesAmount_25 rfl hl (by decide) rfl (fun ls hl => ?_)
      have LP26 : ∀ (d t : Nat) (q1 c1 q6 : List Nat) (σ1 : hw_M) (H : Heap) (locs : List Loc) (ls : Array Slot), 7 - t < d → (t ≤ 7) → (t ≤ k) → (fr_56 σ σ1) → (sg_gp z (gr_p z σ) σ1 5 q1 c1) → (∀ x, x ∈ q1 ↔ sp_ser (zz_N z) (gr_p z σ) true t x) → (es_ok z σ1 6 q6) → zz_V z σ1 s.heap H locs →  lv_has ls 4 [(0, .ref (zz_A z (0, 0))), (1, .int (nI k)), (2, .ref (zz_A z (12, 4))), (3, .int (nI t))] →  W p l e (hw_r 5) s m args below meth c H locs 0 0 Q (F0 m 26 ls []) := by
        intro d
        induction d with
        | zero => intro t q1 c1 q6 σ1 H locs ls hd; exact absurd hd (Nat.not_lt_zero _)
        | succ d IH26 =>
          intro t q1 c1 q6 σ1 H locs ls hd ht7 htk hfr hG5 hT5 hq6 V hl
          have hB := V.1.2.2
          have hLo := hfr.cq.lo hL
          refine nw_iload_n X d_Top_seriesAmount_26 rfl (lv_at hl 3 rfl) ?_
          refine nw_iload_n X d_Top_seriesAmount_27 rfl (lv_at hl 1 rfl) ?_
          refine nw_icmp_ge X (tgt := 66) d_Top_seriesAmount_28 (by decide) (by omega) hk9 (fun hck => ?_) (fun hck => ?_)
          · skip
            refine nw_aload_n X d_Top_seriesAmount_66 rfl (lv_at hl 0 rfl) ?_
            refine gf_Top_35 X V (hz (0, 0) rfl) d_Top_seriesAmount_67 ?_
            refine hw_calli X V (hz (12, 5) (show 5 < 7 by first | assumption | omega)) rfl rfl (cm_Sub_amount l z σ1 hz 5 (by decide) hN q1 hG5.1.1) cs_Top_118 (by decide) rfl hl.1 rfl (Nat.le_of_ble_eq_true rfl) (by decide) d_Top_seriesAmount_70 (fun r σ' H locs V hr => ?_)
            obtain ⟨hσ, rfl⟩ := hr
            rw [hσ] at V
            clear hσ
            have hB := V.1.2.2
            exact hret _ _ _ _ _ _ d_Top_seriesAmount_73 V ⟨cs_56 hC hf1 hfr ⟨q1, hG5.1.1⟩ ⟨q6, hq6⟩, hfr.cq, fun _ => by rw [show el_v (nI k) = k from nI_clamp hk9, show min k 7 = t by omega, cs_cnt hG5 hT5], fun h => absurd ⟨hf1, hx0⟩ h⟩
          · skip
            refine nw_iload_n X d_Top_seriesAmount_31 rfl (lv_at hl 3 rfl) ?_
            refine nw_bipush X 7 d_Top_seriesAmount_32 (by decide) ?_
            refine nw_icmp_ge X (tgt := 66) d_Top_seriesAmount_34 (by decide) (by omega) (by decide) (fun hc7 => ?_) (fun hc7 => ?_)
            · skip
              refine nw_aload_n X d_Top_seriesAmount_66 rfl (lv_at hl 0 rfl) ?_
              refine gf_Top_35 X V (hz (0, 0) rfl) d_Top_seriesAmount_67 ?_
              refine hw_calli X V (hz (12, 5) (show 5 < 7 by first | assumption | omega)) rfl rfl (cm_Sub_amount l z σ1 hz 5 (by decide) hN q1 hG5.1.1) cs_Top_118 (by decide) rfl hl.1 rfl (Nat.le_of_ble_eq_true rfl) (by decide) d_Top_seriesAmount_70 (fun r σ' H locs V hr => ?_)
              obtain ⟨hσ, rfl⟩ := hr
              rw [hσ] at V
              clear hσ
              have hB := V.1.2.2
              exact hret _ _ _ _ _ _ d_Top_seriesAmount_73 V ⟨cs_56 hC hf1 hfr ⟨q1, hG5.1.1⟩ ⟨q6, hq6⟩, hfr.cq, fun _ => by rw [show el_v (nI k) = k from nI_clamp hk9, show min k 7 = t by omega, cs_cnt hG5 hT5], fun h => absurd ⟨hf1, hx0⟩ h⟩
            · skip
              refine nw_aload_n X d_Top_seriesAmount_37 rfl (lv_at hl 0 rfl) ?_
              refine gf_Top_38 X V (hz (0, 0) rfl) d_Top_seriesAmount_38 ?_
              refine nw_aload_n X d_Top_seriesAmount_41 rfl (lv_at hl 0 rfl) ?_
              refine gf_Top_35 X V (hz (0, 0) rfl) d_Top_seriesAmount_42 ?_
              refine nw_aload_n X d_Top_seriesAmount_45 rfl (lv_at hl 2 rfl) ?_
              refine hw_callv X V (hz (12, 6) (show 6 < 7 by first | assumption | omega)) rfl rfl (cm_Sub_becomeCommutators l z σ1 hz 6 (by decide) hLo.1 q6 hq6 5 (by decide) (by decide) q1 c1 hG5.1 4 (by decide) (by decide) qw bw (hfr.gp (by omega) hGw).1) cs_Top_128 (by decide) rfl hl.1 rfl (Nat.le_of_ble_eq_true rfl) (by decide) d_Top_seriesAmount_46 (fun σ2 H locs V hr => ?_)
              obtain ⟨q2, c2, hG2, hx2, f1⟩ := hr
              rw [hLo.2] at hG2 hx2
              have hB := V.1.2.2
              have hJ : ∀ x, x ∈ q2 ↔ sp_ser (zz_N z) (gr_p z σ) true (t + 1) x := sg_csT hG5 (hfr.gp (by omega) hGw) hT5 hwl hx2
              refine nw_aload_n X d_Top_seriesAmount_49 rfl (lv_at hl 0 rfl) ?_
              refine gf_Top_35 X V (hz (0, 0) rfl) d_Top_seriesAmount_50 ?_
              refine nw_aload_n X d_Top_seriesAmount_53 rfl (lv_at hl 0 rfl) ?_
              refine gf_Top_38 X V (hz (0, 0) rfl) d_Top_seriesAmount_54 ?_
              refine hw_callv X V (hz (12, 5) (show 5 < 7 by first | assumption | omega)) rfl rfl (cm_Sub_becomeCopy l z σ2 hz 5 (by decide) hN q1 (sg_oth hG5.1 f1 (by decide)).1 6 (by decide) (by decide) q2 c2 hG2.1) cs_Top_132 (by decide) rfl hl.1 rfl (Nat.le_of_ble_eq_true rfl) (by decide) d_Top_seriesAmount_57 (fun σ3 H locs V hr => ?_)
              obtain ⟨e3, f2⟩ := hr
              have hB := V.1.2.2
              have hG3 : sg_gp z (gr_p z σ) σ3 5 q2 c2 := ⟨e3, hG2.2⟩
              refine nw_iinc X (lv' := [(3, _), (0, _), (1, _), (2, _)]) (k := 3) 1 d_Top_seriesAmount_60 hl rfl (by decide) (by decide) rfl (fun ls hl => ?_)
              refine nw_goto X (tgt := 26) d_Top_seriesAmount_63 (by decide) ?_
              exact IH26 (t + 1) q2 c2 q2 _ _ _ _ (by omega) hc7 hck ((hfr.tr (fr_56.of6 f1)).tr (fr_56.of5 f2)) hG3 hJ (es_oth hG2.1.1 f2 (by decide)) V (lv_sub hl [1, 2, 3, 0] rfl)
      exact LP26 (7 + 1) 0 qw bw q60 _ _ _ _ (by omega) (Nat.zero_le _) (Nat.zero_le _) (fr_56.of5 f0) hG50 hwl (es_oth hq60 f0 (by decide)) V (lv_sub hl [1, 2, 3, 0] rfl)
    · skip
      have hno : ¬ (σ (0, 0) 6 = 1 ∧ ¬ x < 0) := fun h => h.2 (Int32.not_le.mp h0)
      refine nw_iconstv X (-1) d_Top_seriesAmount_11 (by decide) ?_
      exact hret _ _ _ _ _ _ d_Top_seriesAmount_12 V ⟨hC, cs_q.rf, fun h => absurd h hno, fun _ => rfl⟩
set_option maxHeartbeats 4000000 in
set_option maxRecDepth 20000 in
theorem cm_Top_derived (l : Launch) (z : zz_Z) (σ : hw_M) (hz : ∀ k, zz_k (zz_n z) k → zz_O z k) (S : Nat → Nat → Prop) (hC : cs_ok z σ S) (x : Int32) : Met l y_Top_derived (hw_c y_Top_derived b_Top_derived 2 (some .int)) (hw_r 6) (va_Pc [.ref (zz_A z (0, 0)), .int x] (zz_B z σ)) (va_Qi (fun r σ' => cs_ok z σ' S ∧ cs_q σ σ' ∧ an_o (σ (0, 0) 6 = 1 ∧ ¬ x < 0) (gp_cd (zz_N z) (sp_ser (zz_N z) (gr_p z σ) false (min (el_v x) 7))) r) (zz_B z) (zz_F z)) 0 0 (zz_F z) := by
  refine hw_meti (post := (fun r σ' => cs_ok z σ' S ∧ cs_q σ σ' ∧ an_o (σ (0, 0) 6 = 1 ∧ ¬ x < 0) (gp_cd (zz_N z) (sp_ser (zz_N z) (gr_p z σ) false (min (el_v x) 7))) r)) (by decide) (Nat.le_of_ble_eq_true rfl) ?_
  intro p e s m args below meth c ls Q X hret V hl
  have hl : lv_has ls 2 [(0, .ref (zz_A z (0, 0))), (1, .int x)] := hl
  have hB := V.1.2.2
  obtain ⟨hS, hR, hf2, hes, hfx⟩ := id hC
  obtain ⟨hn7, hN, hn, hNe, hw, hsz, hln⟩ := id hS
  refine nw_aload_n X d_Top_derived_0 rfl (lv_at hl 0 rfl) ?_
  refine nw_iload_n X d_Top_derived_1 rfl (lv_at hl 1 rfl) ?_
  refine nw_aload_n X d_Top_derived_2 rfl (lv_at hl 0 rfl) ?_
  refine gf_Top_35 X V (hz (0, 0) rfl) d_Top_derived_3 ?_
  refine hw_calli X V (hz (0, 0) rfl) rfl rfl (cm_Top_seriesAmount5 l z σ hz S hC x) cs_Top_138 (by decide) rfl hl.1 rfl (Nat.le_of_ble_eq_true rfl) (by decide) d_Top_derived_6 (fun r σ' H locs V hr => ?_)
  exact hret _ _ _ _ _ _ d_Top_derived_9 V hr
set_option maxHeartbeats 4000000 in
set_option maxRecDepth 20000 in
theorem cm_Top_lower (l : Launch) (z : zz_Z) (σ : hw_M) (hz : ∀ k, zz_k (zz_n z) k → zz_O z k) (S : Nat → Nat → Prop) (hC : cs_ok z σ S) (x : Int32) : Met l y_Top_lower (hw_c y_Top_lower b_Top_lower 2 (some .int)) (hw_r 6) (va_Pc [.ref (zz_A z (0, 0)), .int x] (zz_B z σ)) (va_Qi (fun r σ' => cs_ok z σ' S ∧ cs_q σ σ' ∧ an_o (σ (0, 0) 6 = 1 ∧ ¬ x < 0) (gp_cd (zz_N z) (sp_ser (zz_N z) (gr_p z σ) true (min (el_v x) 7))) r) (zz_B z) (zz_F z)) 0 0 (zz_F z) := by
  refine hw_meti (post := (fun r σ' => cs_ok z σ' S ∧ cs_q σ σ' ∧ an_o (σ (0, 0) 6 = 1 ∧ ¬ x < 0) (gp_cd (zz_N z) (sp_ser (zz_N z) (gr_p z σ) true (min (el_v x) 7))) r)) (by decide) (Nat.le_of_ble_eq_true rfl) ?_
  intro p e s m args below meth c ls Q X hret V hl
  have hl : lv_has ls 2 [(0, .ref (zz_A z (0, 0))), (1, .int x)] := hl
  have hB := V.1.2.2
  obtain ⟨hS, hR, hf2, hes, hfx⟩ := id hC
  obtain ⟨hn7, hN, hn, hNe, hw, hsz, hln⟩ := id hS
  refine nw_aload_n X d_Top_lower_0 rfl (lv_at hl 0 rfl) ?_
  refine nw_iload_n X d_Top_lower_1 rfl (lv_at hl 1 rfl) ?_
  refine nw_aload_n X d_Top_lower_2 rfl (lv_at hl 0 rfl) ?_
  refine gf_Top_31 X V (hz (0, 0) rfl) d_Top_lower_3 ?_
  refine hw_calli X V (hz (0, 0) rfl) rfl rfl (cm_Top_seriesAmount4 l z σ hz S hC x) cs_Top_138 (by decide) rfl hl.1 rfl (Nat.le_of_ble_eq_true rfl) (by decide) d_Top_lower_6 (fun r σ' H locs V hr => ?_)
  exact hret _ _ _ _ _ _ d_Top_lower_9 V hr
set_option maxHeartbeats 4000000 in
set_option maxRecDepth 20000 in
theorem cm_Top_centre (l : Launch) (z : zz_Z) (σ : hw_M) (hz : ∀ k, zz_k (zz_n z) k → zz_O z k) (S : Nat → Nat → Prop) (hC : cs_ok z σ S) : Met l y_Top_centre (hw_c y_Top_centre b_Top_centre 3 (some .int)) (hw_r 3) (va_Pc [.ref (zz_A z (0, 0))] (zz_B z σ)) (va_Qi (fun r σ' => σ' = σ ∧ an_o (σ (0, 0) 6 = 1) (gp_cd (zz_N z) (sp_central (zz_N z) (gr_p z σ))) r) (zz_B z) (zz_F z)) 0 0 (zz_F z) := by
  refine hw_meti (post := (fun r σ' => σ' = σ ∧ an_o (σ (0, 0) 6 = 1) (gp_cd (zz_N z) (sp_central (zz_N z) (gr_p z σ))) r)) (by decide) (Nat.le_of_ble_eq_true rfl) ?_
  intro p e s m args below meth c ls Q X hret V hl
  have hl : lv_has ls 3 [(0, .ref (zz_A z (0, 0)))] := hl
  have hB := V.1.2.2
  obtain ⟨hS, hR, hf2, hes, hfx⟩ := id hC
  obtain ⟨hn7, hN, hn, hNe, hw, hsz, hln⟩ := id hS
  refine nw_aload_n X d_Top_centre_0 rfl (lv_at hl 0 rfl) ?_
  refine gf_Top_54 X V (hz (0, 0) rfl) d_Top_centre_1 ?_
  refine nw_if_ne X (tgt := 9) d_Top_centre_4 (by decide) (by omega) (fun hc0 => ?_) (fun hc0 => ?_)
  · skip
    have hf1 : σ (0, 0) 6 = 1 := by omega
    obtain ⟨hL, hpl, qw, bw, hGw, hwl⟩ := hfx hf1
    have g := lo_gp hL
    refine nw_iconst X 0 d_Top_centre_9 (by decide) ?_
    refine nw_istore_n X (lv' := [(1, _), (0, _)]) d_Top_centre_10 rfl hl (by decide) rfl (fun ls hl => ?_)
    refine nw_iconst X 0 d_Top_centre_11 (by decide) ?_
    refine nw_istore_n X (lv' := [(2, _), (1, _), (0, _)]) d_Top_centre_12 rfl hl (by decide) rfl (fun ls hl => ?_)
    have LP13 : ∀ (d a n9 : Nat) (H : Heap) (locs : List Loc) (ls : Array Slot), zz_N z - a < d → (a ≤ zz_N z) → (n9 = gp_cd a (sp_central (zz_N z) (gr_p z σ))) → zz_V z σ s.heap H locs →  lv_has ls 3 [(0, .ref (zz_A z (0, 0))), (1, .int (nI n9)), (2, .int (nI a))] →  W p l e (hw_r 3) s m args below meth c H locs 0 0 Q (F0 m 13 ls []) := by
      intro d
      induction d with
      | zero => intro a n9 H locs ls hd; exact absurd hd (Nat.not_lt_zero _)
      | succ d IH13 =>
        intro a n9 H locs ls hd haN hcnt V hl
        have hB := V.1.2.2
        refine nw_iload_n X d_Top_centre_13 rfl (lv_at hl 2 rfl) ?_
        refine nw_aload_n X d_Top_centre_14 rfl (lv_at hl 0 rfl) ?_
        refine gf_Top_18 X V (hz (0, 0) rfl) d_Top_centre_15 ?_
        refine hw_calli X V (hz (1, 0) rfl) rfl rfl (cm_Col_elementCount l z σ (hz (1, 0) rfl)) cs_Top_43 (by decide) rfl hl.1 rfl (Nat.le_of_ble_eq_true rfl) (by decide) d_Top_centre_18 (fun r σ' H locs V hr => ?_)
        obtain ⟨hσ, rfl⟩ := hr
        rw [hσ] at V
        clear hσ
        have hB := V.1.2.2
        rw [hNe]
        refine nw_icmp_ge X (tgt := 44) d_Top_centre_21 (by decide) (by first | assumption | omega) (by first | assumption | omega) (fun ha => ?_) (fun ha => ?_)
        · skip
          refine nw_iload_n X d_Top_centre_44 rfl (lv_at hl 1 rfl) ?_
          exact hret _ _ _ _ _ _ d_Top_centre_45 V ⟨rfl, fun _ => by rw [hcnt, show a = zz_N z by omega], fun h => absurd hf1 h⟩
        · skip
          refine nw_aload_n X d_Top_centre_24 rfl (lv_at hl 0 rfl) ?_
          refine gf_Top_18 X V (hz (0, 0) rfl) d_Top_centre_25 ?_
          refine nw_iload_n X d_Top_centre_28 rfl (lv_at hl 2 rfl) ?_
          refine hw_calli X V (hz (1, 0) rfl) rfl rfl (cm_Col_isCentral l z σ hz hL a ha) cs_Top_142 (by decide) rfl hl.1 rfl (Nat.le_of_ble_eq_true rfl) (by decide) d_Top_centre_29 (fun r σ' H locs V hr => ?_)
          obtain ⟨b1, hb1, rfl, hσ, hbp1⟩ := hr
          rw [hσ] at V
          clear hσ
          have hB := V.1.2.2
          have hce : b1 = 1 ↔ sp_central (zz_N z) (gr_p z σ) a := hbp1.trans ⟨fun h => gp_central g (gr_let hL) (gr_gen hL) ha (fun s hs => by obtain ⟨t, ht, rfl⟩ := hs; exact h t ht), fun h i hi => h _ (gr_let hL _ ⟨i, hi, rfl⟩)⟩
          refine nw_if_eq X (tgt := 38) d_Top_centre_32 (by decide) (by omega) (fun hcb => ?_) (fun hcb => ?_)
          · skip
            have hcnt2 : n9 = gp_cd (a + 1) (sp_central (zz_N z) (gr_p z σ)) := by rw [(gp_cd_succ a).2 (fun h => by have := hce.mpr h; omega)]; exact hcnt
            refine nw_iinc X (lv' := [(2, _), (0, _), (1, _)]) (k := 2) 1 d_Top_centre_38 hl rfl (by decide) (by decide) rfl (fun ls hl => ?_)
            refine nw_goto X (tgt := 13) d_Top_centre_41 (by decide) ?_
            exact IH13 (a + 1) _ _ _ _ (by omega) ha hcnt2 V (lv_sub hl [1, 2, 0] rfl)
          · skip
            have hcnt2 : n9 + 1 = gp_cd (a + 1) (sp_central (zz_N z) (gr_p z σ)) := by rw [(gp_cd_succ a).1 (hce.mp (by omega)), hcnt]
            refine nw_iinc X (lv' := [(1, _), (0, _), (2, _)]) (k := 1) 1 d_Top_centre_35 hl rfl (by decide) (by decide) rfl (fun ls hl => ?_)
            refine nw_iinc X (lv' := [(2, _), (1, _), (0, _)]) (k := 2) 1 d_Top_centre_38 hl rfl (by decide) (by decide) rfl (fun ls hl => ?_)
            refine nw_goto X (tgt := 13) d_Top_centre_41 (by decide) ?_
            exact IH13 (a + 1) _ _ _ _ (by omega) ha hcnt2 V (lv_sub hl [2, 1, 0] rfl)
    exact LP13 (zz_N z + 1) 0 0 _ _ _ (by omega) (Nat.zero_le _) rfl V (lv_sub hl [2, 1, 0] rfl)
  · skip
    refine nw_iconstv X (-1) d_Top_centre_7 (by decide) ?_
    exact hret _ _ _ _ _ _ d_Top_centre_8 V ⟨rfl, fun h => by omega, fun _ => rfl⟩
set_option maxHeartbeats 4000000 in
set_option maxRecDepth 20000 in
theorem cm_Top_addClass (l : Launch) (z : zz_Z) (σ : hw_M) (hz : ∀ k, zz_k (zz_n z) k → zz_O z k) (hL : lo_ok z σ 0) (q : List Nat) (hE : es_ok z σ 7 q) (hk0 : kn_ok z σ q) (a : Nat) (ha : a < zz_N z) : Met l y_Top_addClass (hw_c y_Top_addClass b_Top_addClass 5 none) (hw_r 3) (va_Pc [.ref (zz_A z (0, 0)), .int (nI a)] (zz_B z σ)) (va_Qv (fun σ' => ∃ q', es_ok z σ' 7 q' ∧ (∀ x, x ∈ q' ↔ x ∈ q ∨ sp_kin (zz_N z) (gr_p z σ) a x) ∧ kn_ok z σ q' ∧ es_fr 7 σ σ') (zz_B z) (zz_F z)) 0 0 (zz_F z) := by
  refine hw_metv (post := (fun σ' => ∃ q', es_ok z σ' 7 q' ∧ (∀ x, x ∈ q' ↔ x ∈ q ∨ sp_kin (zz_N z) (gr_p z σ) a x) ∧ kn_ok z σ q' ∧ es_fr 7 σ σ')) (by decide) (Nat.le_of_ble_eq_true rfl) ?_
  intro p e s m args below meth c ls Q X hret V hl
  have hl : lv_has ls 5 [(0, .ref (zz_A z (0, 0))), (1, .int (nI a))] := hl
  have hB := V.1.2.2
  obtain ⟨⟨hn7, hN, hn, hNe, hw, hsz, hln⟩, hk, ht⟩ := id hL
  have g := lo_gp hL
  have h13 : zz_O z (13, 7) := hz (13, 7) (show 7 < 8 by decide)
  have h14 : zz_O z (14, 7) := hz (14, 7) (show 7 < 8 by decide)
  have h15 : zz_O z (15, 7) := hz (15, 7) (show 7 < 8 by decide)
  refine nw_aload_n X d_Top_addClass_0 rfl (lv_at hl 0 rfl) ?_
  refine gf_Top_50 X V (hz (0, 0) rfl) d_Top_addClass_1 ?_
  refine hw_calli X V (hz (13, 7) (show 7 < 8 by first | assumption | omega)) rfl rfl (cm_Set_amount l z σ 7 q h13 h14 h15 hN hE) cs_Top_152 (by decide) rfl hl.1 rfl (Nat.le_of_ble_eq_true rfl) (by decide) d_Top_addClass_4 (fun r σ' H locs V hr => ?_)
  obtain ⟨hσ, rfl⟩ := hr
  rw [hσ] at V
  clear hσ
  have hB := V.1.2.2
  refine nw_istore_n X (lv' := [(2, _), (0, _), (1, _)]) d_Top_addClass_7 rfl hl (by decide) rfl (fun ls hl => ?_)
  refine nw_aload_n X d_Top_addClass_8 rfl (lv_at hl 1 rfl) ?_
  refine gf_Top_50 X V (hz (0, 0) rfl) d_Top_addClass_9 ?_
  refine nw_iload_n X d_Top_addClass_12 rfl (lv_at hl 2 rfl) ?_
  refine hw_callv X V (hz (13, 7) (show 7 < 8 by first | assumption | omega)) rfl rfl (cm_Set_add l z σ 7 q h13 h14 h15 hN hE a ha) cs_Top_156 (by decide) rfl hl.1 rfl (Nat.le_of_ble_eq_true rfl) (by decide) d_Top_addClass_13 (fun σ0 H locs V hr => ?_)
  obtain ⟨e0, f0⟩ := hr
  have hB := V.1.2.2
  refine nw_iload_n X d_Top_addClass_16 rfl (lv_at hl 0 rfl) ?_
  refine nw_istore_n X (lv' := [(3, _), (2, _), (0, _), (1, _)]) d_Top_addClass_17 rfl hl (by decide) rfl (fun ls hl => ?_)
  have LP18 : ∀ (d k : Nat) (q1 : List Nat) (σ1 : hw_M) (H : Heap) (locs : List Loc) (ls : Array Slot), zz_N z - k < d → (k ≤ zz_N z) → (es_fr 7 σ σ1) → (es_ok z σ1 7 q1) → (∀ i, i < q.length → q1.getD i 0 = q.getD i 0) → (q.length ≤ q1.length) → (a ∈ q1) → (∀ x, x ∈ q1 → x ∈ q ∨ sp_kin (zz_N z) (gr_p z σ) a x) → (∀ i, i < k → i < q1.length → ∀ t, t < zz_n z → gp_cj (zz_N z) (gr_p z σ) (q1.getD i 0) (σ (3, 0) t) ∈ q1) → zz_V z σ1 s.heap H locs →  lv_has ls 5 [(0, .ref (zz_A z (0, 0))), (3, .int (nI k))] →  W p l e (hw_r 3) s m args below meth c H locs 0 0 Q (F0 m 18 ls []) := by
    intro d
    induction d with
    | zero => intro k q1 σ1 H locs ls hd; exact absurd hd (Nat.not_lt_zero _)
    | succ d IH18 =>
      intro k q1 σ1 H locs ls hd hkN hfr hE1 hpre hlq ha1 hx hcl V hl
      have hB := V.1.2.2
      have hLo := hfr.cq.lo hL
      have hlen := es_len hE1
      have e3 : σ1 (3, 0) = σ (3, 0) := hfr.cq (3, 0) (Or.inl (by decide))
      refine nw_iload_n X d_Top_addClass_18 rfl (lv_at hl 1 rfl) ?_
      refine nw_aload_n X d_Top_addClass_19 rfl (lv_at hl 0 rfl) ?_
      refine gf_Top_18 X V (hz (0, 0) rfl) d_Top_addClass_20 ?_
      refine hw_calli X V (hz (1, 0) rfl) rfl rfl (cm_Col_elementCount l z σ1 (hz (1, 0) rfl)) cs_Top_43 (by decide) rfl hl.1 rfl (Nat.le_of_ble_eq_true rfl) (by decide) d_Top_addClass_23 (fun r σ' H locs V hr => ?_)
      obtain ⟨hσ, rfl⟩ := hr
      rw [hσ] at V
      clear hσ
      have hB := V.1.2.2
      rw [hLo.1.1.2.2.2.1]
      refine nw_icmp_ge X (tgt := 98) d_Top_addClass_26 (by decide) (by first | assumption | omega) (by first | assumption | omega) (fun hck => ?_) (fun hck => ?_)
      · skip
        exact hret _ _ _ _ _ d_Top_addClass_98 V ⟨q1, hE1, kn_end hL ha hE1.2.1 (fun x hx9 => by obtain ⟨i, h1, h2⟩ := ls_mem_at hx9; rw [← h2, ← hpre i h1]; exact ls_at_mem (by omega)) ha1 hx (fun x t hx9 ht => by obtain ⟨i, h1, h2⟩ := ls_mem_at hx9; rw [← h2]; exact hcl i (by omega) h1 t ht), fun x t hx9 ht => by obtain ⟨i, h1, h2⟩ := ls_mem_at hx9; rw [← h2]; exact hcl i (by omega) h1 t ht, hfr⟩
      · skip
        refine nw_iload_n X d_Top_addClass_29 rfl (lv_at hl 1 rfl) ?_
        refine nw_aload_n X d_Top_addClass_30 rfl (lv_at hl 0 rfl) ?_
        refine gf_Top_50 X V (hz (0, 0) rfl) d_Top_addClass_31 ?_
        refine hw_calli X V (hz (13, 7) (show 7 < 8 by first | assumption | omega)) rfl rfl (cm_Set_amount l z σ1 7 q1 h13 h14 h15 hN hE1) cs_Top_152 (by decide) rfl hl.1 rfl (Nat.le_of_ble_eq_true rfl) (by decide) d_Top_addClass_34 (fun r σ' H locs V hr => ?_)
        obtain ⟨hσ, rfl⟩ := hr
        rw [hσ] at V
        clear hσ
        have hB := V.1.2.2
        refine nw_icmp_ge X (tgt := 98) d_Top_addClass_37 (by decide) (by first | assumption | omega) (by first | assumption | omega) (fun hkq => ?_) (fun hkq => ?_)
        · skip
          exact hret _ _ _ _ _ d_Top_addClass_98 V ⟨q1, hE1, kn_end hL ha hE1.2.1 (fun x hx9 => by obtain ⟨i, h1, h2⟩ := ls_mem_at hx9; rw [← h2, ← hpre i h1]; exact ls_at_mem (by omega)) ha1 hx (fun x t hx9 ht => by obtain ⟨i, h1, h2⟩ := ls_mem_at hx9; rw [← h2]; exact hcl i (by omega) h1 t ht), fun x t hx9 ht => by obtain ⟨i, h1, h2⟩ := ls_mem_at hx9; rw [← h2]; exact hcl i (by omega) h1 t ht, hfr⟩
        · skip
          refine nw_iconst X 0 d_Top_addClass_40 (by decide) ?_
          refine nw_istore X (lv' := [(4, _), (0, _), (3, _)]) d_Top_addClass_41 hl (by decide) rfl (fun ls hl => ?_)
          have LP43 : ∀ (d i9 : Nat) (q1 : List Nat) (σ1 : hw_M) (H : Heap) (locs : List Loc) (ls : Array Slot), zz_n z - i9 < d → (i9 ≤ zz_n z) → (es_fr 7 σ σ1) → (es_ok z σ1 7 q1) → (∀ i, i < q.length → q1.getD i 0 = q.getD i 0) → (q.length ≤ q1.length) → (a ∈ q1) → (∀ x, x ∈ q1 → x ∈ q ∨ sp_kin (zz_N z) (gr_p z σ) a x) → (∀ i, i < k → i < q1.length → ∀ t, t < zz_n z → gp_cj (zz_N z) (gr_p z σ) (q1.getD i 0) (σ (3, 0) t) ∈ q1) → (k < q1.length) → (∀ t, t < i9 → gp_cj (zz_N z) (gr_p z σ) (q1.getD k 0) (σ (3, 0) t) ∈ q1) → zz_V z σ1 s.heap H locs →  lv_has ls 5 [(0, .ref (zz_A z (0, 0))), (3, .int (nI k)), (4, .int (nI i9))] →  W p l e (hw_r 3) s m args below meth c H locs 0 0 Q (F0 m 43 ls []) := by
            intro d
            induction d with
            | zero => intro i9 q1 σ1 H locs ls hd; exact absurd hd (Nat.not_lt_zero _)
            | succ d IH43 =>
              intro i9 q1 σ1 H locs ls hd hin9 hfr hE1 hpre hlq ha1 hx hcl hkq hin V hl
              have hB := V.1.2.2
              have hLo := hfr.cq.lo hL
              have hlen := es_len hE1
              have e3 : σ1 (3, 0) = σ (3, 0) := hfr.cq (3, 0) (Or.inl (by decide))
              refine nw_iload X d_Top_addClass_43 (lv_at hl 2 rfl) ?_
              refine nw_aload_n X d_Top_addClass_45 rfl (lv_at hl 0 rfl) ?_
              refine gf_Top_18 X V (hz (0, 0) rfl) d_Top_addClass_46 ?_
              refine hw_calli X V (hz (1, 0) rfl) rfl rfl (cm_Col_letterCount l z σ1 hz hLo.1.1) cs_Top_58 (by decide) rfl hl.1 rfl (Nat.le_of_ble_eq_true rfl) (by decide) d_Top_addClass_49 (fun r σ' H locs V hr => ?_)
              obtain ⟨hσ, rfl⟩ := hr
              rw [hσ] at V
              clear hσ
              have hB := V.1.2.2
              refine nw_icmp_ge X (tgt := 92) d_Top_addClass_52 (by decide) (by first | assumption | omega) (by first | assumption | omega) (fun hi9 => ?_) (fun hi9 => ?_)
              · skip
                refine nw_iinc X (lv' := [(3, _), (0, _), (4, _)]) (k := 1) 1 d_Top_addClass_92 hl rfl (by decide) (by decide) rfl (fun ls hl => ?_)
                refine nw_goto X (tgt := 18) d_Top_addClass_95 (by decide) ?_
                exact IH18 (k + 1) q1 _ _ _ _ (by omega) hck hfr hE1 hpre hlq ha1 hx (fun i h1 h2 t ht => by by_cases e : i = k; rw [e]; exact hin t (by omega); exact hcl i (by omega) h2 t ht) V (lv_sub hl [1, 0] rfl)
              · skip
                have hq9 : q1.getD k 0 < zz_N z := hE1.2.1 _ (ls_at_mem hkq)
                have hw9 : σ (3, 0) i9 < zz_N z := gr_let hL _ ⟨i9, hi9, rfl⟩
                refine nw_aload_n X d_Top_addClass_55 rfl (lv_at hl 0 rfl) ?_
                refine gf_Top_50 X V (hz (0, 0) rfl) d_Top_addClass_56 ?_
                refine nw_aload_n X d_Top_addClass_59 rfl (lv_at hl 0 rfl) ?_
                refine gf_Top_18 X V (hz (0, 0) rfl) d_Top_addClass_60 ?_
                refine nw_aload_n X d_Top_addClass_63 rfl (lv_at hl 0 rfl) ?_
                refine gf_Top_50 X V (hz (0, 0) rfl) d_Top_addClass_64 ?_
                refine nw_iload_n X d_Top_addClass_67 rfl (lv_at hl 1 rfl) ?_
                refine hw_calli X V (hz (13, 7) (show 7 < 8 by first | assumption | omega)) rfl rfl (cm_Set_member l z σ1 7 q1 h13 h14 h15 hN hE1 k hkq) cs_Top_159 (by decide) rfl hl.1 rfl (Nat.le_of_ble_eq_true rfl) (by decide) d_Top_addClass_68 (fun r σ' H locs V hr => ?_)
                obtain ⟨hσ, rfl⟩ := hr
                rw [hσ] at V
                clear hσ
                have hB := V.1.2.2
                refine nw_aload_n X d_Top_addClass_71 rfl (lv_at hl 0 rfl) ?_
                refine gf_Top_18 X V (hz (0, 0) rfl) d_Top_addClass_72 ?_
                refine nw_iload X d_Top_addClass_75 (lv_at hl 2 rfl) ?_
                refine hw_calli X V (hz (1, 0) rfl) rfl rfl (cm_Col_letter l z σ1 hz hLo.1.1 i9 hi9) cs_Top_65 (by decide) rfl hl.1 rfl (Nat.le_of_ble_eq_true rfl) (by decide) d_Top_addClass_77 (fun r σ' H locs V hr => ?_)
                obtain ⟨hσ, rfl⟩ := hr
                rw [hσ] at V
                clear hσ
                have hB := V.1.2.2
                rw [e3]
                refine hw_calli X V (hz (1, 0) rfl) rfl rfl (cm_Col_conjugateOf l z σ1 hz hLo.1 _ _ hq9 hw9) cs_Top_109 (by decide) rfl hl.1 rfl (Nat.le_of_ble_eq_true rfl) (by decide) d_Top_addClass_80 (fun r σ' H locs V hr => ?_)
                obtain ⟨hσ, rfl⟩ := hr
                rw [hσ] at V
                clear hσ
                have hB := V.1.2.2
                rw [hLo.2]
                have hxl : gp_cj (zz_N z) (gr_p z σ) (q1.getD k 0) (σ (3, 0) i9) < zz_N z := g.cjl hq9 hw9
                have hx9 : gp_cj (zz_N z) (gr_p z σ) (q1.getD k 0) (σ (3, 0) i9) ∈ q ∨ sp_kin (zz_N z) (gr_p z σ) a (gp_cj (zz_N z) (gr_p z σ) (q1.getD k 0) (σ (3, 0) i9)) := (hx _ (ls_at_mem hkq)).elim (fun h => Or.inl (hk0 _ i9 h hi9)) (fun h => Or.inr (kn_step g ha hw9 h))
                generalize hxe : gp_cj (zz_N z) (gr_p z σ) (q1.getD k 0) (σ (3, 0) i9) = x at hxl ⊢
                refine hw_callv X V (hz (13, 7) (show 7 < 8 by first | assumption | omega)) rfl rfl (cm_Set_add l z σ1 7 q1 h13 h14 h15 hN hE1 x hxl) cs_Top_156 (by decide) rfl hl.1 rfl (Nat.le_of_ble_eq_true rfl) (by decide) d_Top_addClass_83 (fun σ2 H locs V hr => ?_)
                obtain ⟨e9, f9⟩ := hr
                have hB := V.1.2.2
                refine nw_iinc X (lv' := [(4, _), (0, _), (3, _)]) (k := 2) 1 d_Top_addClass_86 hl rfl (by decide) (by decide) rfl (fun ls hl => ?_)
                refine nw_goto X (tgt := 43) d_Top_addClass_89 (by decide) ?_
                exact IH43 (i9 + 1) (ls_add q1 x) _ _ _ _ (by omega) hi9 (hfr.tr f9) e9 (fun i hi => by rw [ls_add_at (by omega)]; exact hpre i hi) (Nat.le_trans hlq ls_add_len) (ls_add_mem.mpr (Or.inl ha1)) (fun y hy => (ls_add_mem.mp hy).elim (hx y) (fun e => by rw [e, ← hxe]; exact hx9)) (fun i h1 h2 t ht => by rw [ls_add_at (by omega)]; exact ls_add_mem.mpr (Or.inl (hcl i h1 (by omega) t ht))) (Nat.lt_of_lt_of_le hkq ls_add_len) (fun t ht => by rw [ls_add_at hkq]; by_cases e : t = i9; rw [e]; exact ls_add_mem.mpr (Or.inr hxe); exact ls_add_mem.mpr (Or.inl (hin t (by omega)))) V (lv_sub hl [1, 2, 0] rfl)
          exact LP43 (zz_n z + 1) 0 q1 _ _ _ _ (by omega) (Nat.zero_le _) hfr hE1 hpre hlq ha1 hx hcl hkq (fun t ht => absurd ht (Nat.not_lt_zero _)) V (lv_sub hl [1, 2, 0] rfl)
  exact LP18 (zz_N z + 1) q.length (ls_add q a) _ _ _ _ (by omega) (es_len hE) f0 e0 (fun i hi => ls_add_at hi) ls_add_len (ls_add_mem.mpr (Or.inr rfl)) (fun x hx => (ls_add_mem.mp hx).elim Or.inl (fun e => Or.inr (by rw [e]; exact kn_self g ha))) (fun i h1 h2 t ht => by rw [ls_add_at h1]; exact ls_add_mem.mpr (Or.inl (hk0 _ t (ls_at_mem h1) ht))) V (lv_sub hl [2, 0] rfl)
set_option maxHeartbeats 4000000 in
set_option maxRecDepth 20000 in
theorem cm_Top_classes (l : Launch) (z : zz_Z) (σ : hw_M) (hz : ∀ k, zz_k (zz_n z) k → zz_O z k) (S : Nat → Nat → Prop) (hC : cs_ok z σ S) : Met l y_Top_classes (hw_c y_Top_classes b_Top_classes 3 (some .int)) (hw_r 4) (va_Pc [.ref (zz_A z (0, 0))] (zz_B z σ)) (va_Qi (fun r σ' => cs_ok z σ' S ∧ cs_q σ σ' ∧ an_o (σ (0, 0) 6 = 1) (gp_cd (zz_N z) (sp_least (zz_N z) (gr_p z σ))) r) (zz_B z) (zz_F z)) 0 0 (zz_F z) := by
  refine hw_meti (post := (fun r σ' => cs_ok z σ' S ∧ cs_q σ σ' ∧ an_o (σ (0, 0) 6 = 1) (gp_cd (zz_N z) (sp_least (zz_N z) (gr_p z σ))) r)) (by decide) (Nat.le_of_ble_eq_true rfl) ?_
  intro p e s m args below meth c ls Q X hret V hl
  have hl : lv_has ls 3 [(0, .ref (zz_A z (0, 0)))] := hl
  have hB := V.1.2.2
  obtain ⟨hS, hR, hf2, hes, hfx⟩ := id hC
  obtain ⟨hn7, hN, hn, hNe, hw, hsz, hln⟩ := id hS
  have h13 : zz_O z (13, 7) := hz (13, 7) (show 7 < 8 by decide)
  have h14 : zz_O z (14, 7) := hz (14, 7) (show 7 < 8 by decide)
  have h15 : zz_O z (15, 7) := hz (15, 7) (show 7 < 8 by decide)
  refine nw_aload_n X d_Top_classes_0 rfl (lv_at hl 0 rfl) ?_
  refine gf_Top_54 X V (hz (0, 0) rfl) d_Top_classes_1 ?_
  refine nw_if_ne X (tgt := 9) d_Top_classes_4 (by decide) (by omega) (fun hc0 => ?_) (fun hc0 => ?_)
  · skip
    have hf1 : σ (0, 0) 6 = 1 := by omega
    obtain ⟨hL, hpl, qw, bw, hGw, hwl⟩ := hfx hf1
    have g := lo_gp hL
    obtain ⟨q7, hq7⟩ := hes 7 (by decide)
    refine nw_iconst X 0 d_Top_classes_9 (by decide) ?_
    refine nw_istore_n X (lv' := [(1, _), (0, _)]) d_Top_classes_10 rfl hl (by decide) rfl (fun ls hl => ?_)
    refine nw_aload_n X d_Top_classes_11 rfl (lv_at hl 1 rfl) ?_
    refine gf_Top_50 X V (hz (0, 0) rfl) d_Top_classes_12 ?_
    refine hw_callv X V (hz (13, 7) (show 7 < 8 by first | assumption | omega)) rfl rfl (cm_Set_empty l z σ 7 q7 h13 h14 h15 hN hq7) cs_Top_145 (by decide) rfl hl.1 rfl (Nat.le_of_ble_eq_true rfl) (by decide) d_Top_classes_15 (fun σ0 H locs V hr => ?_)
    obtain ⟨e0, f0⟩ := hr
    have hB := V.1.2.2
    have hL0 := f0.cq.lo hL
    have e30 : σ0 (3, 0) = σ (3, 0) := f0.cq (3, 0) (Or.inl (by decide))
    refine nw_iconst X 0 d_Top_classes_18 (by decide) ?_
    refine nw_istore_n X (lv' := [(2, _), (1, _), (0, _)]) d_Top_classes_19 rfl hl (by decide) rfl (fun ls hl => ?_)
    have LP20 : ∀ (d a n9 : Nat) (q1 : List Nat) (σ1 : hw_M) (H : Heap) (locs : List Loc) (ls : Array Slot), zz_N z - a < d → (a ≤ zz_N z) → (n9 = gp_cd a (sp_least (zz_N z) (gr_p z σ))) → (es_fr 7 σ σ1) → (es_ok z σ1 7 q1) → (kn_ok z σ q1) → (∀ x, x ∈ q1 ↔ ∃ b, b < a ∧ sp_kin (zz_N z) (gr_p z σ) b x) → zz_V z σ1 s.heap H locs →  lv_has ls 3 [(0, .ref (zz_A z (0, 0))), (1, .int (nI n9)), (2, .int (nI a))] →  W p l e (hw_r 4) s m args below meth c H locs 0 0 Q (F0 m 20 ls []) := by
      intro d
      induction d with
      | zero => intro a n9 q1 σ1 H locs ls hd; exact absurd hd (Nat.not_lt_zero _)
      | succ d IH20 =>
        intro a n9 q1 σ1 H locs ls hd haN hcnt hfr hE1 hk1 hx V hl
        have hB := V.1.2.2
        have hLo := hfr.cq.lo hL
        have e3 : σ1 (3, 0) = σ (3, 0) := hfr.cq (3, 0) (Or.inl (by decide))
        refine nw_iload_n X d_Top_classes_20 rfl (lv_at hl 2 rfl) ?_
        refine nw_aload_n X d_Top_classes_21 rfl (lv_at hl 0 rfl) ?_
        refine gf_Top_18 X V (hz (0, 0) rfl) d_Top_classes_22 ?_
        refine hw_calli X V (hz (1, 0) rfl) rfl rfl (cm_Col_elementCount l z σ1 (hz (1, 0) rfl)) cs_Top_43 (by decide) rfl hl.1 rfl (Nat.le_of_ble_eq_true rfl) (by decide) d_Top_classes_25 (fun r σ' H locs V hr => ?_)
        obtain ⟨hσ, rfl⟩ := hr
        rw [hσ] at V
        clear hσ
        have hB := V.1.2.2
        rw [hLo.1.1.2.2.2.1]
        refine nw_icmp_ge X (tgt := 56) d_Top_classes_28 (by decide) (by first | assumption | omega) (by first | assumption | omega) (fun ha => ?_) (fun ha => ?_)
        · skip
          refine nw_iload_n X d_Top_classes_56 rfl (lv_at hl 1 rfl) ?_
          exact hret _ _ _ _ _ _ d_Top_classes_57 V (by
            have h9 := cs_7 hC hf1 hfr ⟨q1, hE1⟩
            exact ⟨h9.1, h9.2, fun _ => by rw [hcnt, show a = zz_N z by omega], fun h => absurd hf1 h⟩)
        · skip
          refine nw_aload_n X d_Top_classes_31 rfl (lv_at hl 0 rfl) ?_
          refine gf_Top_50 X V (hz (0, 0) rfl) d_Top_classes_32 ?_
          refine nw_iload_n X d_Top_classes_35 rfl (lv_at hl 2 rfl) ?_
          refine hw_calli X V (hz (13, 7) (show 7 < 8 by first | assumption | omega)) rfl rfl (cm_Set_holds l z σ1 7 q1 h13 h14 h15 hN hE1 a ha) cs_Top_148 (by decide) rfl hl.1 rfl (Nat.le_of_ble_eq_true rfl) (by decide) d_Top_classes_36 (fun r σ' H locs V hr => ?_)
          obtain ⟨b1, hb1, rfl, hσ, hbp1⟩ := hr
          rw [hσ] at V
          clear hσ
          have hB := V.1.2.2
          refine nw_if_ne X (tgt := 50) d_Top_classes_39 (by decide) (by omega) (fun hcb => ?_) (fun hcb => ?_)
          · skip
            have hin : a ∈ q1 := Classical.byContradiction fun h => hcb (by rw [hbp1, if_neg h])
            have hnl : ¬ sp_least (zz_N z) (gr_p z σ) a := kn_nl g ha ((hx a).mp hin)
            have hcnt2 : n9 = gp_cd (a + 1) (sp_least (zz_N z) (gr_p z σ)) := by rw [(gp_cd_succ a).2 hnl]; exact hcnt
            have hfr2 := hfr
            have hE2 := hE1
            have hk2 := hk1
            have hx2 := kn_same g ha hin hx
            refine nw_iinc X (lv' := [(2, _), (0, _), (1, _)]) (k := 2) 1 d_Top_classes_50 hl rfl (by decide) (by decide) rfl (fun ls hl => ?_)
            refine nw_goto X (tgt := 20) d_Top_classes_53 (by decide) ?_
            exact IH20 (a + 1) _ _ _ _ _ _ (by omega) ha hcnt2 hfr2 hE2 hk2 hx2 V (lv_sub hl [1, 2, 0] rfl)
          · skip
            have hn9 : a ∉ q1 := fun h => by rw [if_pos h] at hbp1; omega
            have hcnt2 : n9 + 1 = gp_cd (a + 1) (sp_least (zz_N z) (gr_p z σ)) := by rw [(gp_cd_succ a).1 (kn_l g ha (fun h => hn9 ((hx a).mpr h))), hcnt]
            refine nw_aload_n X d_Top_classes_42 rfl (lv_at hl 0 rfl) ?_
            refine nw_iload_n X d_Top_classes_43 rfl (lv_at hl 2 rfl) ?_
            refine hw_callv X V (hz (0, 0) rfl) rfl rfl (cm_Top_addClass l z σ1 hz hLo.1 q1 hE1 (kn_mv hLo.2 e3 hk1) a ha) cs_Top_149 (by decide) rfl hl.1 rfl (Nat.le_of_ble_eq_true rfl) (by decide) d_Top_classes_44 (fun σ2 H locs V hr => ?_)
            obtain ⟨q2, hE2, hx9, hk9, f9⟩ := hr
            rw [hLo.2] at hx9
            have hB := V.1.2.2
            have hfr2 := hfr.tr f9
            have hk2 : kn_ok z σ q2 := kn_mv hLo.2.symm e3.symm hk9
            have hx2 : ∀ x, x ∈ q2 ↔ ∃ b, b < a + 1 ∧ sp_kin (zz_N z) (gr_p z σ) b x := fun x => (hx9 x).trans ⟨fun h => h.elim (fun q => by obtain ⟨b, h1, h2⟩ := (hx x).mp q; exact ⟨b, by omega, h2⟩) (fun q => ⟨a, by omega, q⟩), fun ⟨b, h1, h2⟩ => by by_cases e : b = a; rw [e] at h2; exact Or.inr h2; exact Or.inl ((hx x).mpr ⟨b, by omega, h2⟩)⟩
            refine nw_iinc X (lv' := [(1, _), (0, _), (2, _)]) (k := 1) 1 d_Top_classes_47 hl rfl (by decide) (by decide) rfl (fun ls hl => ?_)
            refine nw_iinc X (lv' := [(2, _), (1, _), (0, _)]) (k := 2) 1 d_Top_classes_50 hl rfl (by decide) (by decide) rfl (fun ls hl => ?_)
            refine nw_goto X (tgt := 20) d_Top_classes_53 (by decide) ?_
            exact IH20 (a + 1) _ _ _ _ _ _ (by omega) ha hcnt2 hfr2 hE2 hk2 hx2 V (lv_sub hl [2, 1, 0] rfl)
    exact LP20 (zz_N z + 1) 0 0 [] _ _ _ _ (by omega) (Nat.zero_le _) rfl f0 e0 (fun x t hx => absurd hx List.not_mem_nil) (fun x => ⟨fun h => absurd h List.not_mem_nil, fun ⟨b, h, _⟩ => absurd h (Nat.not_lt_zero _)⟩) V (lv_sub hl [2, 1, 0] rfl)
  · skip
    refine nw_iconstv X (-1) d_Top_classes_7 (by decide) ?_
    exact hret _ _ _ _ _ _ d_Top_classes_8 V ⟨hC, cs_q.rf, fun h => by omega, fun _ => rfl⟩
set_option maxHeartbeats 4000000 in
set_option maxRecDepth 20000 in
theorem cm_Top_kin (l : Launch) (z : zz_Z) (σ : hw_M) (hz : ∀ k, zz_k (zz_n z) k → zz_O z k) (S : Nat → Nat → Prop) (hC : cs_ok z σ S) (x : Int32) : Met l y_Top_kin (hw_c y_Top_kin b_Top_kin 2 (some .int)) (hw_r 4) (va_Pc [.ref (zz_A z (0, 0)), .int x] (zz_B z σ)) (va_Qi (fun r σ' => cs_ok z σ' S ∧ cs_q σ σ' ∧ an_o (σ (0, 0) 6 = 1 ∧ el_i (zz_N z) x) (gp_cd (zz_N z) (sp_kin (zz_N z) (gr_p z σ) (el_v x))) r) (zz_B z) (zz_F z)) 0 0 (zz_F z) := by
  refine hw_meti (post := (fun r σ' => cs_ok z σ' S ∧ cs_q σ σ' ∧ an_o (σ (0, 0) 6 = 1 ∧ el_i (zz_N z) x) (gp_cd (zz_N z) (sp_kin (zz_N z) (gr_p z σ) (el_v x))) r)) (by decide) (Nat.le_of_ble_eq_true rfl) ?_
  intro p e s m args below meth c ls Q X hret V hl
  have hl : lv_has ls 2 [(0, .ref (zz_A z (0, 0))), (1, .int x)] := hl
  have hB := V.1.2.2
  obtain ⟨hS, hR, hf2, hes, hfx⟩ := id hC
  obtain ⟨hn7, hN, hn, hNe, hw, hsz, hln⟩ := id hS
  have h13 : zz_O z (13, 7) := hz (13, 7) (show 7 < 8 by decide)
  have h14 : zz_O z (14, 7) := hz (14, 7) (show 7 < 8 by decide)
  have h15 : zz_O z (15, 7) := hz (15, 7) (show 7 < 8 by decide)
  refine nw_aload_n X d_Top_kin_0 rfl (lv_at hl 0 rfl) ?_
  refine nw_iload_n X d_Top_kin_1 rfl (lv_at hl 1 rfl) ?_
  refine hw_calli X V (hz (0, 0) rfl) rfl rfl (cm_Top_isElement l z σ hz S hC x) cs_Top_91 (by decide) rfl hl.1 rfl (Nat.le_of_ble_eq_true rfl) (by decide) d_Top_kin_2 (fun r σ' H locs V hr => ?_)
  obtain ⟨b1, hb1, rfl, hσ, hbp1⟩ := hr
  rw [hσ] at V
  clear hσ
  have hB := V.1.2.2
  refine nw_if_ne X (tgt := 10) d_Top_kin_5 (by decide) (by omega) (fun hc => ?_) (fun hc => ?_)
  · skip
    obtain ⟨hf1, a, ha, rfl⟩ := hbp1.mp (by omega)
    obtain ⟨hL, hpl, qw, bw, hGw, hwl⟩ := hfx hf1
    have g := lo_gp hL
    obtain ⟨q7, hq7⟩ := hes 7 (by decide)
    have ev : el_v (nI a) = a := el_nv (by omega) ha
    refine nw_aload_n X d_Top_kin_10 rfl (lv_at hl 0 rfl) ?_
    refine gf_Top_50 X V (hz (0, 0) rfl) d_Top_kin_11 ?_
    refine hw_callv X V (hz (13, 7) (show 7 < 8 by first | assumption | omega)) rfl rfl (cm_Set_empty l z σ 7 q7 h13 h14 h15 hN hq7) cs_Top_145 (by decide) rfl hl.1 rfl (Nat.le_of_ble_eq_true rfl) (by decide) d_Top_kin_14 (fun σ0 H locs V hr => ?_)
    obtain ⟨e0, f0⟩ := hr
    have hB := V.1.2.2
    have hL0 := f0.cq.lo hL
    have e30 : σ0 (3, 0) = σ (3, 0) := f0.cq (3, 0) (Or.inl (by decide))
    refine nw_aload_n X d_Top_kin_17 rfl (lv_at hl 0 rfl) ?_
    refine nw_iload_n X d_Top_kin_18 rfl (lv_at hl 1 rfl) ?_
    refine hw_callv X V (hz (0, 0) rfl) rfl rfl (cm_Top_addClass l z σ0 hz hL0.1 [] e0 (fun x t hx => absurd hx List.not_mem_nil) a ha) cs_Top_149 (by decide) rfl hl.1 rfl (Nat.le_of_ble_eq_true rfl) (by decide) d_Top_kin_19 (fun σ1 H locs V hr => ?_)
    obtain ⟨q1, e1, hx1, hk1, f1⟩ := hr
    rw [hL0.2] at hx1
    have hB := V.1.2.2
    have hq1 : ∀ x, x ∈ q1 ↔ sp_kin (zz_N z) (gr_p z σ) a x := fun x => (hx1 x).trans ⟨fun h => h.elim (fun q => absurd q List.not_mem_nil) id, Or.inr⟩
    refine nw_aload_n X d_Top_kin_22 rfl (lv_at hl 0 rfl) ?_
    refine gf_Top_50 X V (hz (0, 0) rfl) d_Top_kin_23 ?_
    refine hw_calli X V (hz (13, 7) (show 7 < 8 by first | assumption | omega)) rfl rfl (cm_Set_amount l z σ1 7 q1 h13 h14 h15 hN e1) cs_Top_152 (by decide) rfl hl.1 rfl (Nat.le_of_ble_eq_true rfl) (by decide) d_Top_kin_26 (fun r σ' H locs V hr => ?_)
    obtain ⟨hσ, rfl⟩ := hr
    rw [hσ] at V
    clear hσ
    have hB := V.1.2.2
    exact hret _ _ _ _ _ _ d_Top_kin_29 V (by
      have h9 := cs_7 hC hf1 (f0.tr f1) ⟨q1, e1⟩
      exact ⟨h9.1, h9.2, fun _ => by rw [ev, gp_cd_ls e1.1 e1.2.1 (fun x _ => hq1 x)], fun h => absurd ⟨hf1, a, ha, rfl⟩ h⟩)
  · skip
    have hno : ¬ (σ (0, 0) 6 = 1 ∧ el_i (zz_N z) x) := fun h => by have := hbp1.mpr h; omega
    refine nw_iconstv X (-1) d_Top_kin_8 (by decide) ?_
    exact hret _ _ _ _ _ _ d_Top_kin_9 V ⟨hC, cs_q.rf, fun h => absurd h hno, fun _ => rfl⟩
set_option maxHeartbeats 4000000 in
set_option maxRecDepth 20000 in
theorem cm_Top_head (l : Launch) (z : zz_Z) (σ : hw_M) (hz : ∀ k, zz_k (zz_n z) k → zz_O z k) (S : Nat → Nat → Prop) (hC : cs_ok z σ S) (x : Int32) : Met l y_Top_head (hw_c y_Top_head b_Top_head 2 (some .int)) (hw_r 4) (va_Pc [.ref (zz_A z (0, 0)), .int x] (zz_B z σ)) (va_Qi (fun r σ' => cs_ok z σ' S ∧ cs_q σ σ' ∧ ((σ (0, 0) 6 = 1 ∧ el_i (zz_N z) x) → ∃ v, r = nI v ∧ sp_head (zz_N z) (gr_p z σ) (el_v x) v) ∧ (¬ (σ (0, 0) 6 = 1 ∧ el_i (zz_N z) x) → r = -1)) (zz_B z) (zz_F z)) 0 0 (zz_F z) := by
  refine hw_meti (post := (fun r σ' => cs_ok z σ' S ∧ cs_q σ σ' ∧ ((σ (0, 0) 6 = 1 ∧ el_i (zz_N z) x) → ∃ v, r = nI v ∧ sp_head (zz_N z) (gr_p z σ) (el_v x) v) ∧ (¬ (σ (0, 0) 6 = 1 ∧ el_i (zz_N z) x) → r = -1))) (by decide) (Nat.le_of_ble_eq_true rfl) ?_
  intro p e s m args below meth c ls Q X hret V hl
  have hl : lv_has ls 2 [(0, .ref (zz_A z (0, 0))), (1, .int x)] := hl
  have hB := V.1.2.2
  obtain ⟨hS, hR, hf2, hes, hfx⟩ := id hC
  obtain ⟨hn7, hN, hn, hNe, hw, hsz, hln⟩ := id hS
  have h13 : zz_O z (13, 7) := hz (13, 7) (show 7 < 8 by decide)
  have h14 : zz_O z (14, 7) := hz (14, 7) (show 7 < 8 by decide)
  have h15 : zz_O z (15, 7) := hz (15, 7) (show 7 < 8 by decide)
  refine nw_aload_n X d_Top_head_0 rfl (lv_at hl 0 rfl) ?_
  refine nw_iload_n X d_Top_head_1 rfl (lv_at hl 1 rfl) ?_
  refine hw_calli X V (hz (0, 0) rfl) rfl rfl (cm_Top_isElement l z σ hz S hC x) cs_Top_91 (by decide) rfl hl.1 rfl (Nat.le_of_ble_eq_true rfl) (by decide) d_Top_head_2 (fun r σ' H locs V hr => ?_)
  obtain ⟨b1, hb1, rfl, hσ, hbp1⟩ := hr
  rw [hσ] at V
  clear hσ
  have hB := V.1.2.2
  refine nw_if_ne X (tgt := 10) d_Top_head_5 (by decide) (by omega) (fun hc => ?_) (fun hc => ?_)
  · skip
    obtain ⟨hf1, a, ha, rfl⟩ := hbp1.mp (by omega)
    obtain ⟨hL, hpl, qw, bw, hGw, hwl⟩ := hfx hf1
    have g := lo_gp hL
    obtain ⟨q7, hq7⟩ := hes 7 (by decide)
    have ev : el_v (nI a) = a := el_nv (by omega) ha
    refine nw_aload_n X d_Top_head_10 rfl (lv_at hl 0 rfl) ?_
    refine gf_Top_50 X V (hz (0, 0) rfl) d_Top_head_11 ?_
    refine hw_callv X V (hz (13, 7) (show 7 < 8 by first | assumption | omega)) rfl rfl (cm_Set_empty l z σ 7 q7 h13 h14 h15 hN hq7) cs_Top_145 (by decide) rfl hl.1 rfl (Nat.le_of_ble_eq_true rfl) (by decide) d_Top_head_14 (fun σ0 H locs V hr => ?_)
    obtain ⟨e0, f0⟩ := hr
    have hB := V.1.2.2
    have hL0 := f0.cq.lo hL
    have e30 : σ0 (3, 0) = σ (3, 0) := f0.cq (3, 0) (Or.inl (by decide))
    refine nw_aload_n X d_Top_head_17 rfl (lv_at hl 0 rfl) ?_
    refine nw_iload_n X d_Top_head_18 rfl (lv_at hl 1 rfl) ?_
    refine hw_callv X V (hz (0, 0) rfl) rfl rfl (cm_Top_addClass l z σ0 hz hL0.1 [] e0 (fun x t hx => absurd hx List.not_mem_nil) a ha) cs_Top_149 (by decide) rfl hl.1 rfl (Nat.le_of_ble_eq_true rfl) (by decide) d_Top_head_19 (fun σ1 H locs V hr => ?_)
    obtain ⟨q1, e1, hx1, hk1, f1⟩ := hr
    rw [hL0.2] at hx1
    have hB := V.1.2.2
    have hq1 : ∀ x, x ∈ q1 ↔ sp_kin (zz_N z) (gr_p z σ) a x := fun x => (hx1 x).trans ⟨fun h => h.elim (fun q => absurd q List.not_mem_nil) id, Or.inr⟩
    refine nw_aload_n X d_Top_head_22 rfl (lv_at hl 0 rfl) ?_
    refine gf_Top_50 X V (hz (0, 0) rfl) d_Top_head_23 ?_
    refine hw_calli X V (hz (13, 7) (show 7 < 8 by first | assumption | omega)) rfl rfl (cm_Set_least l z σ1 7 q1 h13 h14 h15 hN e1 ⟨a, (hq1 a).mpr (kn_self g ha)⟩) cs_Top_153 (by decide) rfl hl.1 rfl (Nat.le_of_ble_eq_true rfl) (by decide) d_Top_head_26 (fun r σ' H locs V hr => ?_)
    obtain ⟨hσ, v, rfl, hv1, hv2⟩ := hr
    rw [hσ] at V
    exact hret _ _ _ _ _ _ d_Top_head_29 V (by
      have h9 := cs_7 hC hf1 (f0.tr f1) ⟨q1, e1⟩
      exact ⟨h9.1, h9.2, fun _ => ⟨v, rfl, by rw [ev]; exact ⟨(hq1 v).mp hv1, fun y hy => hv2 y ((hq1 y).mpr hy)⟩⟩, fun h => absurd ⟨hf1, a, ha, rfl⟩ h⟩)
  · skip
    have hno : ¬ (σ (0, 0) 6 = 1 ∧ el_i (zz_N z) x) := fun h => by have := hbp1.mpr h; omega
    refine nw_iconstv X (-1) d_Top_head_8 (by decide) ?_
    exact hret _ _ _ _ _ _ d_Top_head_9 V ⟨hC, cs_q.rf, fun h => absurd h hno, fun _ => rfl⟩
