/-! Subgroups: contracts. By program (wip/whole/gen/sub.py). -/
set_option maxHeartbeats 4000000 in
set_option maxRecDepth 20000 in
theorem cm_Sub_amount (l : Launch) (z : zz_Z) (σ : hw_M) (hz : ∀ k, zz_k (zz_n z) k → zz_O z k) (j : Nat) (hj : j < 7) (hN : zz_N z ≤ 128) (q : List Nat) (hE : es_ok z σ j q) : Met l y_Sub_amount (hw_c y_Sub_amount b_Sub_amount 1 (some .int)) (hw_r 1) (va_Pc [.ref (zz_A z (12, j))] (zz_B z σ)) (va_Qi (fun r σ' => σ' = σ ∧ r = nI q.length) (zz_B z) (zz_F z)) 0 0 (zz_F z) := by
  refine hw_meti (post := (fun r σ' => σ' = σ ∧ r = nI q.length)) (by decide) (Nat.le_of_ble_eq_true rfl) ?_
  intro p e s m args below meth c ls Q X hret V hl
  have hl : lv_has ls 1 [(0, .ref (zz_A z (12, j)))] := hl
  have hB := V.1.2.2
  have o1 : zz_O z (1, 0) := hz (1, 0) rfl
  have h12 : zz_O z (12, j) := hz (12, j) (show j < 7 by omega)
  have h13 : zz_O z (13, j) := hz (13, j) (show j < 8 by omega)
  have h14 : zz_O z (14, j) := hz (14, j) (show j < 8 by omega)
  have h15 : zz_O z (15, j) := hz (15, j) (show j < 8 by omega)
  have h16 : zz_O z (16, j) := hz (16, j) (show j < 7 by omega)
  refine nw_aload_n X d_Sub_amount_0 rfl (lv_at hl 0 rfl) ?_
  refine gf_Sub_26 X V h12 d_Sub_amount_1 ?_
  refine hw_calli X V h13 rfl rfl (cm_Set_amount l z σ j q h13 h14 h15 hN hE) cs_Sub_41 (by decide) rfl hl.1 rfl (Nat.le_of_ble_eq_true rfl) (by decide) d_Sub_amount_4 (fun r σ' H locs V hr => ?_)
  obtain ⟨hσ, rfl⟩ := hr
  rw [hσ] at V
  clear hσ
  have hB := V.1.2.2
  exact hret _ _ _ _ _ _ d_Sub_amount_7 V ⟨rfl, rfl⟩
set_option maxHeartbeats 4000000 in
set_option maxRecDepth 20000 in
theorem cm_Sub_holds (l : Launch) (z : zz_Z) (σ : hw_M) (hz : ∀ k, zz_k (zz_n z) k → zz_O z k) (j : Nat) (hj : j < 7) (hN : zz_N z ≤ 128) (q : List Nat) (hE : es_ok z σ j q) (a : Nat) (ha : a < zz_N z) : Met l y_Sub_holds (hw_c y_Sub_holds b_Sub_holds 2 (some .boolean)) (hw_r 1) (va_Pc [.ref (zz_A z (12, j)), .int (nI a)] (zz_B z σ)) (va_Qi (fun r σ' => ∃ b, b < 2 ∧ r = nI b ∧ (fun b σ' => σ' = σ ∧ b = if a ∈ q then 1 else 0) b σ') (zz_B z) (zz_F z)) 0 0 (zz_F z) := by
  refine hw_metz (post := (fun b σ' => σ' = σ ∧ b = if a ∈ q then 1 else 0)) (by decide) (Nat.le_of_ble_eq_true rfl) ?_
  intro p e s m args below meth c ls Q X hret V hl
  have hl : lv_has ls 2 [(0, .ref (zz_A z (12, j))), (1, .int (nI a))] := hl
  have hB := V.1.2.2
  have o1 : zz_O z (1, 0) := hz (1, 0) rfl
  have h12 : zz_O z (12, j) := hz (12, j) (show j < 7 by omega)
  have h13 : zz_O z (13, j) := hz (13, j) (show j < 8 by omega)
  have h14 : zz_O z (14, j) := hz (14, j) (show j < 8 by omega)
  have h15 : zz_O z (15, j) := hz (15, j) (show j < 8 by omega)
  have h16 : zz_O z (16, j) := hz (16, j) (show j < 7 by omega)
  refine nw_aload_n X d_Sub_holds_0 rfl (lv_at hl 0 rfl) ?_
  refine gf_Sub_26 X V h12 d_Sub_holds_1 ?_
  refine nw_iload_n X d_Sub_holds_4 rfl (lv_at hl 1 rfl) ?_
  refine hw_calli X V h13 rfl rfl (cm_Set_holds l z σ j q h13 h14 h15 hN hE a ha) cs_Sub_44 (by decide) rfl hl.1 rfl (Nat.le_of_ble_eq_true rfl) (by decide) d_Sub_holds_5 (fun r σ' H locs V hr => ?_)
  obtain ⟨b, hb2, rfl, hσ, hbp⟩ := hr
  rw [hσ] at V
  exact hret _ _ _ _ _ _ d_Sub_holds_8 V hb2 ⟨rfl, hbp⟩
set_option maxHeartbeats 4000000 in
set_option maxRecDepth 20000 in
theorem cm_Sub_reset (l : Launch) (z : zz_Z) (σ : hw_M) (hz : ∀ k, zz_k (zz_n z) k → zz_O z k) (j : Nat) (hj : j < 7) (hN : zz_N z ≤ 128) (q : List Nat) (hE : es_ok z σ j q) (h0 : 0 < zz_N z) : Met l y_Sub_reset (hw_c y_Sub_reset b_Sub_reset 1 none) (hw_r 1) (va_Pc [.ref (zz_A z (12, j))] (zz_B z σ)) (va_Qv (fun σ' => sg_ok z σ' j [0] [] ∧ sg_fr j σ σ') (zz_B z) (zz_F z)) 0 0 (zz_F z) := by
  refine hw_metv (post := (fun σ' => sg_ok z σ' j [0] [] ∧ sg_fr j σ σ')) (by decide) (Nat.le_of_ble_eq_true rfl) ?_
  intro p e s m args below meth c ls Q X hret V hl
  have hl : lv_has ls 1 [(0, .ref (zz_A z (12, j)))] := hl
  have hB := V.1.2.2
  have o1 : zz_O z (1, 0) := hz (1, 0) rfl
  have h12 : zz_O z (12, j) := hz (12, j) (show j < 7 by omega)
  have h13 : zz_O z (13, j) := hz (13, j) (show j < 8 by omega)
  have h14 : zz_O z (14, j) := hz (14, j) (show j < 8 by omega)
  have h15 : zz_O z (15, j) := hz (15, j) (show j < 8 by omega)
  have h16 : zz_O z (16, j) := hz (16, j) (show j < 7 by omega)
  refine nw_aload_n X d_Sub_reset_0 rfl (lv_at hl 0 rfl) ?_
  refine gf_Sub_26 X V h12 d_Sub_reset_1 ?_
  refine hw_callv X V h13 rfl rfl (cm_Set_empty l z σ j q h13 h14 h15 hN hE) cs_Sub_48 (by decide) rfl hl.1 rfl (Nat.le_of_ble_eq_true rfl) (by decide) d_Sub_reset_4 (fun σ1 H locs V hr => ?_)
  obtain ⟨e1, f1⟩ := hr
  refine nw_aload_n X d_Sub_reset_7 rfl (lv_at hl 0 rfl) ?_
  refine gf_Sub_26 X V h12 d_Sub_reset_8 ?_
  refine nw_iconst X 0 d_Sub_reset_11 (by decide) ?_
  refine hw_callv X V h13 rfl rfl (cm_Set_add l z σ1 j [] h13 h14 h15 hN e1 0 h0) cs_Sub_38 (by decide) rfl hl.1 rfl (Nat.le_of_ble_eq_true rfl) (by decide) d_Sub_reset_12 (fun σ2 H locs V hr => ?_)
  obtain ⟨e2, f2⟩ := hr
  refine nw_aload_n X d_Sub_reset_15 rfl (lv_at hl 0 rfl) ?_
  refine nw_iconst X 0 d_Sub_reset_16 (by decide) ?_
  refine pf_Sub_34 X V h12 (by decide) d_Sub_reset_17 (fun H locs V => ?_)
  exact hret _ _ _ _ _ d_Sub_reset_20 V ⟨sg_zero e2, (f1.sg.tr f2.sg).tr sg_fr.up12⟩
set_option maxHeartbeats 4000000 in
set_option maxRecDepth 20000 in
theorem cm_Sub_include (l : Launch) (z : zz_Z) (σ : hw_M) (hz : ∀ k, zz_k (zz_n z) k → zz_O z k) (j : Nat) (hj : j < 7) (hL : lo_ok z σ 0) (q bs : List Nat) (hG : sg_gp z (gr_p z σ) σ j q bs) (a : Nat) (ha : a < zz_N z) : Met l y_Sub_include (hw_c y_Sub_include b_Sub_include 4 none) (hw_r 2) (va_Pc [.ref (zz_A z (12, j)), .int (nI a)] (zz_B z σ)) (va_Qv (fun σ' => ∃ q' c', sg_gp z (gr_p z σ) σ' j q' c' ∧ a ∈ q' ∧ (c' = bs ∨ c' = bs ++ [a]) ∧ sg_fr j σ σ') (zz_B z) (zz_F z)) 0 0 (zz_F z) := by
  refine hw_metv (post := (fun σ' => ∃ q' c', sg_gp z (gr_p z σ) σ' j q' c' ∧ a ∈ q' ∧ (c' = bs ∨ c' = bs ++ [a]) ∧ sg_fr j σ σ')) (by decide) (Nat.le_of_ble_eq_true rfl) ?_
  intro p e s m args below meth c ls Q X hret V hl
  have hl : lv_has ls 4 [(0, .ref (zz_A z (12, j))), (1, .int (nI a))] := hl
  have hB := V.1.2.2
  have o1 : zz_O z (1, 0) := hz (1, 0) rfl
  have h12 : zz_O z (12, j) := hz (12, j) (show j < 7 by omega)
  have h13 : zz_O z (13, j) := hz (13, j) (show j < 8 by omega)
  have h14 : zz_O z (14, j) := hz (14, j) (show j < 8 by omega)
  have h15 : zz_O z (15, j) := hz (15, j) (show j < 8 by omega)
  have h16 : zz_O z (16, j) := hz (16, j) (show j < 7 by omega)
  obtain ⟨⟨hn7, hN, hn, hNe, hw, hsz, hln⟩, hk, ht⟩ := id hL
  have g := lo_gp hL
  have hE := hG.1.1
  refine nw_aload_n X d_Sub_include_0 rfl (lv_at hl 0 rfl) ?_
  refine gf_Sub_26 X V h12 d_Sub_include_1 ?_
  refine nw_iload_n X d_Sub_include_4 rfl (lv_at hl 1 rfl) ?_
  refine hw_calli X V h13 rfl rfl (cm_Set_holds l z σ j q h13 h14 h15 hN hE a ha) cs_Sub_44 (by decide) rfl hl.1 rfl (Nat.le_of_ble_eq_true rfl) (by decide) d_Sub_include_5 (fun r σ' H locs V hr => ?_)
  obtain ⟨b, hb2, rfl, hσ, hbp⟩ := hr
  rw [hσ] at V
  clear hσ
  have hB := V.1.2.2
  refine nw_if_ne X (tgt := 20) d_Sub_include_8 (by decide) (by omega) (fun hb0 => ?_) (fun hb0 => ?_)
  · skip
    have hin : a ∈ q := Classical.byContradiction fun h => hb0 (by rw [hbp, if_neg h])
    exact hret _ _ _ _ _ d_Sub_include_20 V ⟨q, bs, hG, hin, Or.inl rfl, sg_fr.rf⟩
  · skip
    have hn : a ∉ q := fun h => by rw [if_pos h] at hbp; omega
    have hc7 := sg_room hN hG ha hn
    have hbl := hG.1.2.1
    refine nw_aload_n X d_Sub_include_11 rfl (lv_at hl 0 rfl) ?_
    refine gf_Sub_34 X V h12 d_Sub_include_12 ?_
    rw [hbl]
    refine nw_bipush X 7 d_Sub_include_15 (by decide) ?_
    refine nw_icmp_lt X (tgt := 21) d_Sub_include_17 (by decide) (by omega) (by decide) (fun hc => ?_) (fun hc => ?_)
    · skip
      refine nw_aload_n X d_Sub_include_21 rfl (lv_at hl 0 rfl) ?_
      refine gf_Sub_30 X V h12 d_Sub_include_22 ?_
      refine nw_aload_n X d_Sub_include_25 rfl (lv_at hl 0 rfl) ?_
      refine gf_Sub_34 X V h12 d_Sub_include_26 ?_
      rw [hbl]
      refine nw_iload_n X d_Sub_include_29 rfl (lv_at hl 1 rfl) ?_
      refine hw_iast X V h16 0 (fun _ => rfl) rfl hc7 (by decide) (by omega) d_Sub_include_30 (fun H locs V => ?_)
      refine nw_aload_n X d_Sub_include_31 rfl (lv_at hl 0 rfl) ?_
      refine nw_dup X d_Sub_include_32 rfl ?_
      refine gf_Sub_34 X V h12 d_Sub_include_33 ?_
      rw [hw_up_k _ _ _ (hw_ne (by decide)), hbl]
      refine nw_iconst X 1 d_Sub_include_36 (by decide) ?_
      refine nw_iadd X d_Sub_include_37 ?_
      refine pf_Sub_34 X V h12 (by omega) d_Sub_include_38 (fun H locs V => ?_)
      refine nw_iconst X 0 d_Sub_include_41 (by decide) ?_
      refine nw_istore_n X (lv' := [(2, _), (0, _), (1, _)]) d_Sub_include_42 rfl hl (by decide) rfl (fun ls hl => ?_)
      have LP43 : ∀ (d k : Nat) (q1 : List Nat) (σ1 : hw_M) (H : Heap) (locs : List Loc) (ls : Array Slot), zz_N z - k < d → (k ≤ zz_N z) → (k ≤ q1.length) → (sg_ok z σ1 j q1 (bs ++ [a])) → (sg_fr j σ σ1) → (0 ∈ q1) → (∀ x, x ∈ q1 → gp_gn (zz_N z) (gr_p z σ) (fun y => y ∈ bs ++ [a]) x) → (∀ i, i < k → i < q1.length → ∀ b, b ∈ bs ++ [a] → gr_p z σ (q1.getD i 0) b ∈ q1) → zz_V z σ1 s.heap H locs →  lv_has ls 4 [(0, .ref (zz_A z (12, j))), (1, .int (nI a)), (2, .int (nI k))] →  W p l e (hw_r 2) s m args below meth c H locs 0 0 Q (F0 m 43 ls []) := by
        intro d
        induction d with
        | zero => intro k q1 σ1 H locs ls hd; exact absurd hd (Nat.not_lt_zero _)
        | succ d IH43 =>
          intro k q1 σ1 H locs ls hd hkN hkl hok hfr h0 hg hcl V hl
          have hB := V.1.2.2
          have hE1 := hok.1
          have hlen := es_len hE1
          have hLo := sg_lo hL hfr
          refine nw_iload_n X d_Sub_include_43 rfl (lv_at hl 2 rfl) ?_
          refine nw_aload_n X d_Sub_include_44 rfl (lv_at hl 0 rfl) ?_
          refine gf_Sub_9 X V h12 d_Sub_include_45 ?_
          refine hw_calli X V o1 rfl rfl (cm_Col_elementCount l z σ1 o1) cs_Sub_17 (by decide) rfl hl.1 rfl (Nat.le_of_ble_eq_true rfl) (by decide) d_Sub_include_48 (fun r σ' H locs V hr => ?_)
          obtain ⟨hσ, rfl⟩ := hr
          rw [hσ] at V
          clear hσ
          have hB := V.1.2.2
          rw [hLo.1.1.2.2.2.1]
          refine nw_icmp_ge X (tgt := 115) d_Sub_include_51 (by decide) (by first | assumption | omega) (by first | assumption | omega) (fun hck => ?_) (fun hck => ?_)
          · skip
            exact hret _ _ _ _ _ d_Sub_include_115 V (by
              have h9 := sg_end g hG hn hok h0 hg (k := k) (by omega) hcl
              exact ⟨q1, bs ++ [a], h9.1, h9.2, Or.inr rfl, hfr⟩)
          · skip
            refine nw_iload_n X d_Sub_include_54 rfl (lv_at hl 2 rfl) ?_
            refine nw_aload_n X d_Sub_include_55 rfl (lv_at hl 0 rfl) ?_
            refine gf_Sub_26 X V h12 d_Sub_include_56 ?_
            refine hw_calli X V h13 rfl rfl (cm_Set_amount l z σ1 j q1 h13 h14 h15 hN hE1) cs_Sub_41 (by decide) rfl hl.1 rfl (Nat.le_of_ble_eq_true rfl) (by decide) d_Sub_include_59 (fun r σ' H locs V hr => ?_)
            obtain ⟨hσ, rfl⟩ := hr
            rw [hσ] at V
            clear hσ
            have hB := V.1.2.2
            refine nw_icmp_ge X (tgt := 115) d_Sub_include_62 (by decide) (by first | assumption | omega) (by first | assumption | omega) (fun hcq => ?_) (fun hkl2 => ?_)
            · skip
              exact hret _ _ _ _ _ d_Sub_include_115 V (by
                have h9 := sg_end g hG hn hok h0 hg (k := k) (by omega) hcl
                exact ⟨q1, bs ++ [a], h9.1, h9.2, Or.inr rfl, hfr⟩)
            · skip
              refine nw_iconst X 0 d_Sub_include_65 (by decide) ?_
              refine nw_istore_n X (lv' := [(3, _), (0, _), (1, _), (2, _)]) d_Sub_include_66 rfl hl (by decide) rfl (fun ls hl => ?_)
              have LP67 : ∀ (d t : Nat) (q1 : List Nat) (σ1 : hw_M) (H : Heap) (locs : List Loc) (ls : Array Slot), (bs ++ [a]).length - t < d → (t ≤ (bs ++ [a]).length) → (k + 1 ≤ q1.length) → (sg_ok z σ1 j q1 (bs ++ [a])) → (sg_fr j σ σ1) → (0 ∈ q1) → (∀ x, x ∈ q1 → gp_gn (zz_N z) (gr_p z σ) (fun y => y ∈ bs ++ [a]) x) → (∀ i, i < k → i < q1.length → ∀ b, b ∈ bs ++ [a] → gr_p z σ (q1.getD i 0) b ∈ q1) → (∀ i, i < t → gr_p z σ (q1.getD k 0) ((bs ++ [a]).getD i 0) ∈ q1) → zz_V z σ1 s.heap H locs →  lv_has ls 4 [(0, .ref (zz_A z (12, j))), (1, .int (nI a)), (2, .int (nI k)), (3, .int (nI t))] →  W p l e (hw_r 2) s m args below meth c H locs 0 0 Q (F0 m 67 ls []) := by
                intro d
                induction d with
                | zero => intro t q1 σ1 H locs ls hd; exact absurd hd (Nat.not_lt_zero _)
                | succ d IH67 =>
                  intro t q1 σ1 H locs ls hd htl hkl hok hfr h0 hg hcl hin V hl
                  have hB := V.1.2.2
                  have hE1 := hok.1
                  have hlen := es_len hE1
                  have hLo := sg_lo hL hfr
                  have hcl7 := hok.2.2.1
                  have hkl2 := hkl
                  refine nw_iload_n X d_Sub_include_67 rfl (lv_at hl 3 rfl) ?_
                  refine nw_aload_n X d_Sub_include_68 rfl (lv_at hl 0 rfl) ?_
                  refine gf_Sub_34 X V h12 d_Sub_include_69 ?_
                  rw [hok.2.1]
                  refine nw_icmp_ge X (tgt := 109) d_Sub_include_72 (by decide) (by first | assumption | omega) (by first | assumption | omega) (fun htc => ?_) (fun htc => ?_)
                  · skip
                    refine nw_iinc X (lv' := [(2, _), (0, _), (1, _), (3, _)]) (k := 2) 1 d_Sub_include_109 hl rfl (by decide) (by decide) rfl (fun ls hl => ?_)
                    refine nw_goto X (tgt := 43) d_Sub_include_112 (by decide) ?_
                    exact IH43 (k + 1) q1 _ _ _ _ (by omega) hck hkl2 hok hfr h0 hg (fun i h1 h2 b hb => by
                      by_cases e : i = k
                      · obtain ⟨t, ht1, ht2⟩ := ls_mem_at hb
                        rw [e, ← ht2]
                        exact hin t (by omega)
                      · exact hcl i (by omega) h2 b hb) V (lv_sub hl [1, 2, 0] rfl)
                  · skip
                    have hb9 : (bs ++ [a]).getD t 0 < zz_N z := hok.2.2.2.2 _ (ls_at_mem htc)
                    have hq9 : q1.getD k 0 < zz_N z := hE1.2.1 _ (ls_at_mem (by omega))
                    refine nw_aload_n X d_Sub_include_75 rfl (lv_at hl 0 rfl) ?_
                    refine gf_Sub_26 X V h12 d_Sub_include_76 ?_
                    refine nw_aload_n X d_Sub_include_79 rfl (lv_at hl 0 rfl) ?_
                    refine gf_Sub_9 X V h12 d_Sub_include_80 ?_
                    refine nw_aload_n X d_Sub_include_83 rfl (lv_at hl 0 rfl) ?_
                    refine gf_Sub_26 X V h12 d_Sub_include_84 ?_
                    refine nw_iload_n X d_Sub_include_87 rfl (lv_at hl 2 rfl) ?_
                    refine hw_calli X V h13 rfl rfl (cm_Set_member l z σ1 j q1 h13 h14 h15 hN hE1 k (by omega)) cs_Sub_51 (by decide) rfl hl.1 rfl (Nat.le_of_ble_eq_true rfl) (by decide) d_Sub_include_88 (fun r σ' H locs V hr => ?_)
                    obtain ⟨hσ, rfl⟩ := hr
                    rw [hσ] at V
                    clear hσ
                    have hB := V.1.2.2
                    refine nw_aload_n X d_Sub_include_91 rfl (lv_at hl 0 rfl) ?_
                    refine gf_Sub_30 X V h12 d_Sub_include_92 ?_
                    refine nw_iload_n X d_Sub_include_95 rfl (lv_at hl 3 rfl) ?_
                    refine hw_iald X V h16 0 rfl rfl (by omega) (by decide) d_Sub_include_96 ?_
                    rw [hok.2.2.2.1 t htc]
                    refine hw_calli X V o1 rfl rfl (cm_Col_multiply l z σ1 hz hLo.1 _ _ hq9 hb9) cs_Sub_55 (by decide) rfl hl.1 rfl (Nat.le_of_ble_eq_true rfl) (by decide) d_Sub_include_97 (fun r σ' H locs V hr => ?_)
                    obtain ⟨hσ, rfl⟩ := hr
                    rw [hσ] at V
                    clear hσ
                    have hB := V.1.2.2
                    rw [hLo.2]
                    have hxl : gr_p z σ (q1.getD k 0) ((bs ++ [a]).getD t 0) < zz_N z := g.lt hq9 hb9
                    have hgx : gp_gn (zz_N z) (gr_p z σ) (fun y => y ∈ bs ++ [a]) (gr_p z σ (q1.getD k 0) ((bs ++ [a]).getD t 0)) := (gp_gn.sb g hok.2.2.2.2).2.2 _ _ (hg _ (ls_at_mem (by omega))) (gp_gn.in (ls_at_mem htc))
                    generalize hxe : gr_p z σ (q1.getD k 0) ((bs ++ [a]).getD t 0) = x at hxl hgx ⊢
                    refine hw_callv X V h13 rfl rfl (cm_Set_add l z σ1 j q1 h13 h14 h15 hN hE1 x hxl) cs_Sub_38 (by decide) rfl hl.1 rfl (Nat.le_of_ble_eq_true rfl) (by decide) d_Sub_include_100 (fun σ2 H locs V hr => ?_)
                    obtain ⟨e9, f9⟩ := hr
                    have hB := V.1.2.2
                    refine nw_iinc X (lv' := [(3, _), (0, _), (1, _), (2, _)]) (k := 3) 1 d_Sub_include_103 hl rfl (by decide) (by decide) rfl (fun ls hl => ?_)
                    refine nw_goto X (tgt := 67) d_Sub_include_106 (by decide) ?_
                    exact IH67 (t + 1) (ls_add q1 x) _ _ _ _ (by omega) htc (Nat.le_trans hkl ls_add_len) (sg_es hok e9 f9) (hfr.tr f9.sg) (ls_add_mem.mpr (Or.inl h0)) (fun y hy => (ls_add_mem.mp hy).elim (hg y) (fun e => by rw [e]; exact hgx)) (ls_cl_add hcl (by omega)) (fun i hi => by
                      rw [ls_add_at (show k < q1.length by omega)]
                      by_cases e : i = t
                      · rw [e]; exact ls_add_mem.mpr (Or.inr hxe)
                      · exact ls_add_mem.mpr (Or.inl (hin i (by omega)))) V (lv_sub hl [1, 2, 3, 0] rfl)
              exact LP67 ((bs ++ [a]).length + 1) 0 q1 _ _ _ _ (by omega) (Nat.zero_le _) hkl2 hok hfr h0 hg hcl (fun i hi => absurd hi (Nat.not_lt_zero _)) V (lv_sub hl [1, 2, 3, 0] rfl)
      exact LP43 (zz_N z + 1) 0 q _ _ _ _ (by omega) (Nat.zero_le _) (Nat.zero_le _) (sg_push hG.1 hc7 ha) ((sg_fr.up16).tr sg_fr.up12) ((hG.2.1 0).mpr (gp_gn.sb g hG.1.2.2.2.2).1) (fun x hx => gp_gn.mono (fun y hy => List.mem_append_left _ hy) ((hG.2.1 x).mp hx)) (fun i hi => absurd hi (Nat.not_lt_zero _)) V (lv_sub hl [1, 2, 0] rfl)
    · skip
      exact absurd hc (by omega)
