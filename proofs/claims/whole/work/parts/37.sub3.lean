/-! Subgroups: copies and commutators. By program (wip/whole/gen/sub3.py). -/
set_option maxHeartbeats 4000000 in
set_option maxRecDepth 20000 in
theorem cm_Sub_becomeCopy (l : Launch) (z : zz_Z) (σ : hw_M) (hz : ∀ k, zz_k (zz_n z) k → zz_O z k) (j : Nat) (hj : j < 7) (hN : zz_N z ≤ 128) (q : List Nat) (hE : es_ok z σ j q) (js : Nat) (hjs : js < 7) (hnes : js ≠ j) (qs bs0 : List Nat) (hSs0 : sg_ok z σ js qs bs0) : Met l y_Sub_becomeCopy (hw_c y_Sub_becomeCopy b_Sub_becomeCopy 3 none) (hw_r 1) (va_Pc [.ref (zz_A z (12, j)), .ref (zz_A z (12, js))] (zz_B z σ)) (va_Qv (fun σ' => sg_ok z σ' j qs bs0 ∧ sg_fr j σ σ') (zz_B z) (zz_F z)) 0 0 (zz_F z) := by
  refine hw_metv (post := (fun σ' => sg_ok z σ' j qs bs0 ∧ sg_fr j σ σ')) (by decide) (Nat.le_of_ble_eq_true rfl) ?_
  intro p e s m args below meth c ls Q X hret V hl
  have hl : lv_has ls 3 [(0, .ref (zz_A z (12, j))), (1, .ref (zz_A z (12, js)))] := hl
  have hB := V.1.2.2
  have o1 : zz_O z (1, 0) := hz (1, 0) rfl
  have h12 : zz_O z (12, j) := hz (12, j) (show j < 7 by omega)
  have h13 : zz_O z (13, j) := hz (13, j) (show j < 8 by omega)
  have h14 : zz_O z (14, j) := hz (14, j) (show j < 8 by omega)
  have h15 : zz_O z (15, j) := hz (15, j) (show j < 8 by omega)
  have h16 : zz_O z (16, j) := hz (16, j) (show j < 7 by omega)
  have h12s : zz_O z (12, js) := hz (12, js) (show js < 7 by omega)
  have h13s : zz_O z (13, js) := hz (13, js) (show js < 8 by omega)
  have h14s : zz_O z (14, js) := hz (14, js) (show js < 8 by omega)
  have h15s : zz_O z (15, js) := hz (15, js) (show js < 8 by omega)
  have h16s : zz_O z (16, js) := hz (16, js) (show js < 7 by omega)
  refine nw_aload_n X d_Sub_becomeCopy_0 rfl (lv_at hl 0 rfl) ?_
  refine gf_Sub_26 X V h12 d_Sub_becomeCopy_1 ?_
  refine hw_callv X V h13 rfl rfl (cm_Set_empty l z σ j q h13 h14 h15 hN hE) cs_Sub_48 (by decide) rfl hl.1 rfl (Nat.le_of_ble_eq_true rfl) (by decide) d_Sub_becomeCopy_4 (fun σ1 H locs V hr => ?_)
  obtain ⟨e1, f1⟩ := hr
  refine nw_iconst X 0 d_Sub_becomeCopy_7 (by decide) ?_
  refine nw_istore_n X (lv' := [(2, _), (0, _), (1, _)]) d_Sub_becomeCopy_8 rfl hl (by decide) rfl (fun ls hl => ?_)
  have LP9 : ∀ (d k : Nat) (σ2 : hw_M) (H : Heap) (locs : List Loc) (ls : Array Slot), qs.length - k < d → (k ≤ qs.length) → (es_fr j σ σ2) → (es_ok z σ2 j (qs.take k)) → zz_V z σ2 s.heap H locs →  lv_has ls 3 [(0, .ref (zz_A z (12, j))), (1, .ref (zz_A z (12, js))), (2, .int (nI k))] →  W p l e (hw_r 1) s m args below meth c H locs 0 0 Q (F0 m 9 ls []) := by
    intro d
    induction d with
    | zero => intro k σ2 H locs ls hd; exact absurd hd (Nat.not_lt_zero _)
    | succ d IH9 =>
      intro k σ2 H locs ls hd hkl hfr hE1 V hl
      have hB := V.1.2.2
      have hSs := sg_oth hSs0 hfr.sg hnes
      have hlen := es_len hSs.1
      have hs7 := hSs.2.2.1
      refine nw_iload_n X d_Sub_becomeCopy_9 rfl (lv_at hl 2 rfl) ?_
      refine nw_aload_n X d_Sub_becomeCopy_10 rfl (lv_at hl 1 rfl) ?_
      refine gf_Sub_26 X V h12s d_Sub_becomeCopy_11 ?_
      refine hw_calli X V h13s rfl rfl (cm_Set_amount l z σ2 js qs h13s h14s h15s hN hSs.1) cs_Sub_41 (by decide) rfl hl.1 rfl (Nat.le_of_ble_eq_true rfl) (by decide) d_Sub_becomeCopy_14 (fun r σ' H locs V hr => ?_)
      obtain ⟨hσ, rfl⟩ := hr
      rw [hσ] at V
      clear hσ
      have hB := V.1.2.2
      refine nw_icmp_ge X (tgt := 41) d_Sub_becomeCopy_17 (by decide) (by first | assumption | omega) (by first | assumption | omega) (fun hc => ?_) (fun hc => ?_)
      · skip
        refine nw_aload_n X d_Sub_becomeCopy_41 rfl (lv_at hl 1 rfl) ?_
        refine gf_Sub_30 X V h12s d_Sub_becomeCopy_42 ?_
        refine nw_iconst X 0 d_Sub_becomeCopy_45 (by decide) ?_
        refine nw_aload_n X d_Sub_becomeCopy_46 rfl (lv_at hl 0 rfl) ?_
        refine gf_Sub_30 X V h12 d_Sub_becomeCopy_47 ?_
        refine nw_iconst X 0 d_Sub_becomeCopy_50 (by decide) ?_
        refine nw_aload_n X d_Sub_becomeCopy_51 rfl (lv_at hl 1 rfl) ?_
        refine gf_Sub_34 X V h12s d_Sub_becomeCopy_52 ?_
        rw [hSs.2.1]
        refine hw_copy X V h16s h16 0 rfl (fun _ => rfl) rfl wi_390 wi_71 wi_70 wi_36 hs7 hs7 (by omega) hl.1 (by decide) (Nat.le_of_ble_eq_true rfl) d_Sub_becomeCopy_55 (fun H locs V => ?_)
        refine nw_aload_n X d_Sub_becomeCopy_58 rfl (lv_at hl 0 rfl) ?_
        refine nw_aload_n X d_Sub_becomeCopy_59 rfl (lv_at hl 1 rfl) ?_
        refine gf_Sub_34 X V h12s d_Sub_becomeCopy_60 ?_
        rw [show hw_cp σ2 (16, js) (16, j) bs0.length (12, js) = σ2 (12, js) from if_neg (hw_ne (by decide)), hSs.2.1]
        refine pf_Sub_34 X V h12 (by omega) d_Sub_becomeCopy_63 (fun H locs V => ?_)
        exact hret _ _ _ _ _ d_Sub_becomeCopy_66 V (sg_copy (by rw [List.take_of_length_le (by omega)] at hE1; exact hE1) hfr hSs hnes)
      · skip
        refine nw_aload_n X d_Sub_becomeCopy_20 rfl (lv_at hl 0 rfl) ?_
        refine gf_Sub_26 X V h12 d_Sub_becomeCopy_21 ?_
        refine nw_aload_n X d_Sub_becomeCopy_24 rfl (lv_at hl 1 rfl) ?_
        refine gf_Sub_26 X V h12s d_Sub_becomeCopy_25 ?_
        refine nw_iload_n X d_Sub_becomeCopy_28 rfl (lv_at hl 2 rfl) ?_
        refine hw_calli X V h13s rfl rfl (cm_Set_member l z σ2 js qs h13s h14s h15s hN hSs.1 k hc) cs_Sub_51 (by decide) rfl hl.1 rfl (Nat.le_of_ble_eq_true rfl) (by decide) d_Sub_becomeCopy_29 (fun r σ' H locs V hr => ?_)
        obtain ⟨hσ, rfl⟩ := hr
        rw [hσ] at V
        clear hσ
        have hB := V.1.2.2
        refine hw_callv X V h13 rfl rfl (cm_Set_add l z σ2 j _ h13 h14 h15 hN hE1 _ (hSs.1.2.1 _ (ls_at_mem hc))) cs_Sub_38 (by decide) rfl hl.1 rfl (Nat.le_of_ble_eq_true rfl) (by decide) d_Sub_becomeCopy_32 (fun σ3 H locs V hr => ?_)
        obtain ⟨e3, f3⟩ := hr
        refine nw_iinc X (lv' := [(2, _), (0, _), (1, _)]) (k := 2) 1 d_Sub_becomeCopy_35 hl rfl (by decide) (by decide) rfl (fun ls hl => ?_)
        refine nw_goto X (tgt := 9) d_Sub_becomeCopy_38 (by decide) ?_
        exact IH9 (k + 1) _ _ _ _ (by omega) hc (fun u a b c => (f3 u a b c).trans (hfr u a b c)) (by rw [← ls_take hSs0.1.1 hc]; exact e3) V (lv_sub hl [1, 2, 0] rfl)
  exact LP9 (qs.length + 1) 0 _ _ _ _ (by omega) (Nat.zero_le _) f1 e1 V (lv_sub hl [1, 2, 0] rfl)
set_option maxHeartbeats 4000000 in
set_option maxRecDepth 20000 in
theorem cm_Sub_becomeCommutators (l : Launch) (z : zz_Z) (σ : hw_M) (hz : ∀ k, zz_k (zz_n z) k → zz_O z k) (j : Nat) (hj : j < 7) (hL : lo_ok z σ 0) (q : List Nat) (hE : es_ok z σ j q) (js : Nat) (hjs : js < 7) (hnes : js ≠ j) (qs bs0 : List Nat) (hSs0 : sg_ok z σ js qs bs0) (jt : Nat) (hjt : jt < 7) (hnet : jt ≠ j) (qt bt0 : List Nat) (hSt0 : sg_ok z σ jt qt bt0) : Met l y_Sub_becomeCommutators (hw_c y_Sub_becomeCommutators b_Sub_becomeCommutators 5 none) (hw_r 4) (va_Pc [.ref (zz_A z (12, j)), .ref (zz_A z (12, js)), .ref (zz_A z (12, jt))] (zz_B z σ)) (va_Qv (fun σ' => ∃ q' c', sg_gp z (gr_p z σ) σ' j q' c' ∧ (∀ x, x ∈ q' ↔ gp_cs (zz_N z) (gr_p z σ) (gp_gn (zz_N z) (gr_p z σ) (fun y => y ∈ bs0)) (gp_gn (zz_N z) (gr_p z σ) (fun y => y ∈ bt0)) x) ∧ sg_fr j σ σ') (zz_B z) (zz_F z)) 0 0 (zz_F z) := by
  refine hw_metv (post := (fun σ' => ∃ q' c', sg_gp z (gr_p z σ) σ' j q' c' ∧ (∀ x, x ∈ q' ↔ gp_cs (zz_N z) (gr_p z σ) (gp_gn (zz_N z) (gr_p z σ) (fun y => y ∈ bs0)) (gp_gn (zz_N z) (gr_p z σ) (fun y => y ∈ bt0)) x) ∧ sg_fr j σ σ')) (by decide) (Nat.le_of_ble_eq_true rfl) ?_
  intro p e s m args below meth c ls Q X hret V hl
  have hl : lv_has ls 5 [(0, .ref (zz_A z (12, j))), (1, .ref (zz_A z (12, js))), (2, .ref (zz_A z (12, jt)))] := hl
  have hB := V.1.2.2
  have o1 : zz_O z (1, 0) := hz (1, 0) rfl
  have h12 : zz_O z (12, j) := hz (12, j) (show j < 7 by omega)
  have h13 : zz_O z (13, j) := hz (13, j) (show j < 8 by omega)
  have h14 : zz_O z (14, j) := hz (14, j) (show j < 8 by omega)
  have h15 : zz_O z (15, j) := hz (15, j) (show j < 8 by omega)
  have h16 : zz_O z (16, j) := hz (16, j) (show j < 7 by omega)
  obtain ⟨⟨hn7, hN, hn, hNe, hw, hsz, hln⟩, hk, ht⟩ := id hL
  have g := lo_gp hL
  have h12s : zz_O z (12, js) := hz (12, js) (show js < 7 by omega)
  have h13s : zz_O z (13, js) := hz (13, js) (show js < 8 by omega)
  have h14s : zz_O z (14, js) := hz (14, js) (show js < 8 by omega)
  have h15s : zz_O z (15, js) := hz (15, js) (show js < 8 by omega)
  have h16s : zz_O z (16, js) := hz (16, js) (show js < 7 by omega)
  have h12t : zz_O z (12, jt) := hz (12, jt) (show jt < 7 by omega)
  have h13t : zz_O z (13, jt) := hz (13, jt) (show jt < 8 by omega)
  have h14t : zz_O z (14, jt) := hz (14, jt) (show jt < 8 by omega)
  have h15t : zz_O z (15, jt) := hz (15, jt) (show jt < 8 by omega)
  have h16t : zz_O z (16, jt) := hz (16, jt) (show jt < 7 by omega)
  refine nw_aload_n X d_Sub_becomeCommutators_0 rfl (lv_at hl 0 rfl) ?_
  refine hw_callv X V h12 rfl rfl (cm_Sub_reset l z σ hz j hj hN q hE g.pos) cs_Sub_63 (by decide) rfl hl.1 rfl (Nat.le_of_ble_eq_true rfl) (by decide) d_Sub_becomeCommutators_1 (fun σ0 H locs V hr => ?_)
  obtain ⟨e0, f0⟩ := hr
  have hG0 := sg_gp0 g e0
  refine nw_iconst X 0 d_Sub_becomeCommutators_4 (by decide) ?_
  refine nw_istore_n X (lv' := [(3, _), (0, _), (1, _), (2, _)]) d_Sub_becomeCommutators_5 rfl hl (by decide) rfl (fun ls hl => ?_)
  have LP6 : ∀ (d i : Nat) (q1 c1 : List Nat) (σ1 : hw_M) (H : Heap) (locs : List Loc) (ls : Array Slot), bs0.length - i < d → (i ≤ bs0.length) → (sg_fr j σ σ1) → (sg_gp z (gr_p z σ) σ1 j q1 c1) → (∀ K : Nat → Prop, gp_sb (zz_N z) (gr_p z σ) K → (∀ x y, x ∈ bs0 → y ∈ bt0 → K (gp_cm (zz_N z) (gr_p z σ) x y)) → ∀ b, b ∈ c1 → K b) → (∀ t, t < i → ∀ y, y ∈ bt0 → gp_cm (zz_N z) (gr_p z σ) (bs0.getD t 0) y ∈ q1) → zz_V z σ1 s.heap H locs →  lv_has ls 5 [(0, .ref (zz_A z (12, j))), (1, .ref (zz_A z (12, js))), (2, .ref (zz_A z (12, jt))), (3, .int (nI i))] →  W p l e (hw_r 4) s m args below meth c H locs 0 0 Q (F0 m 6 ls []) := by
    intro d
    induction d with
    | zero => intro i q1 c1 σ1 H locs ls hd; exact absurd hd (Nat.not_lt_zero _)
    | succ d IH6 =>
      intro i q1 c1 σ1 H locs ls hd hil hfr hG1 hK hin V hl
      have hB := V.1.2.2
      have hLo := sg_lo hL hfr
      have hSs := sg_oth hSs0 hfr hnes
      have hSt := sg_oth hSt0 hfr hnet
      have hsl := hSs.2.2.1
      have htl := hSt.2.2.1
      refine nw_iload_n X d_Sub_becomeCommutators_6 rfl (lv_at hl 3 rfl) ?_
      refine nw_aload_n X d_Sub_becomeCommutators_7 rfl (lv_at hl 1 rfl) ?_
      refine gf_Sub_34 X V h12s d_Sub_becomeCommutators_8 ?_
      rw [hSs.2.1]
      refine nw_icmp_ge X (tgt := 62) d_Sub_becomeCommutators_11 (by decide) (by first | assumption | omega) (by first | assumption | omega) (fun hci => ?_) (fun hci => ?_)
      · skip
        have hcm : ∀ x y, x ∈ bs0 → y ∈ bt0 → gp_cm (zz_N z) (gr_p z σ) x y ∈ q1 := fun x y hx hy => by obtain ⟨t, ht1, ht2⟩ := ls_mem_at hx; rw [← ht2]; exact hin t (by omega) y hy
        refine nw_iconst X 0 d_Sub_becomeCommutators_62 (by decide) ?_
        refine nw_istore_n X (lv' := [(3, _), (0, _), (1, _), (2, _)]) d_Sub_becomeCommutators_63 rfl hl (by decide) rfl (fun ls hl => ?_)
        have LP64 : ∀ (d k : Nat) (q1 c1 : List Nat) (σ1 : hw_M) (H : Heap) (locs : List Loc) (ls : Array Slot), 7 - k < d → (k ≤ 7) → (sg_fr j σ σ1) → (sg_gp z (gr_p z σ) σ1 j q1 c1) → (∀ x y, x ∈ bs0 → y ∈ bt0 → gp_cm (zz_N z) (gr_p z σ) x y ∈ q1) → (∀ t, t < k → t < c1.length → (∀ b, b ∈ bs0 → gp_cj (zz_N z) (gr_p z σ) (c1.getD t 0) b ∈ q1) ∧ ∀ b, b ∈ bt0 → gp_cj (zz_N z) (gr_p z σ) (c1.getD t 0) b ∈ q1) → (∀ K : Nat → Prop, gp_sb (zz_N z) (gr_p z σ) K → (∀ x y, x ∈ bs0 → y ∈ bt0 → K (gp_cm (zz_N z) (gr_p z σ) x y)) → (∀ k b, K k → b ∈ bs0 → K (gp_cj (zz_N z) (gr_p z σ) k b)) → (∀ k b, K k → b ∈ bt0 → K (gp_cj (zz_N z) (gr_p z σ) k b)) → ∀ b, b ∈ c1 → K b) → zz_V z σ1 s.heap H locs →  lv_has ls 5 [(0, .ref (zz_A z (12, j))), (1, .ref (zz_A z (12, js))), (2, .ref (zz_A z (12, jt))), (3, .int (nI k))] →  W p l e (hw_r 4) s m args below meth c H locs 0 0 Q (F0 m 64 ls []) := by
          intro d
          induction d with
          | zero => intro k q1 c1 σ1 H locs ls hd; exact absurd hd (Nat.not_lt_zero _)
          | succ d IH64 =>
            intro k q1 c1 σ1 H locs ls hd hk7 hfr hG1 hcm hin hK V hl
            have hB := V.1.2.2
            have hLo := sg_lo hL hfr
            have hSs := sg_oth hSs0 hfr hnes
            have hSt := sg_oth hSt0 hfr hnet
            have hsl := hSs.2.2.1
            have htl := hSt.2.2.1
            have hcl7 := hG1.1.2.2.1
            refine nw_iload_n X d_Sub_becomeCommutators_64 rfl (lv_at hl 3 rfl) ?_
            refine nw_bipush X 7 d_Sub_becomeCommutators_65 (by decide) ?_
            refine nw_icmp_ge X (tgt := 106) d_Sub_becomeCommutators_67 (by decide) (by omega) (by decide) (fun hc7 => ?_) (fun hc7 => ?_)
            · skip
              exact hret _ _ _ _ _ d_Sub_becomeCommutators_106 V ⟨q1, c1, hG1, sg_cs g hSs0 hSt0 hG1 hcm (fun t ht => hin t (by omega) ht) hK, hfr⟩
            · skip
              refine nw_iload_n X d_Sub_becomeCommutators_70 rfl (lv_at hl 3 rfl) ?_
              refine nw_aload_n X d_Sub_becomeCommutators_71 rfl (lv_at hl 0 rfl) ?_
              refine gf_Sub_34 X V h12 d_Sub_becomeCommutators_72 ?_
              rw [hG1.1.2.1]
              refine nw_icmp_ge X (tgt := 106) d_Sub_becomeCommutators_75 (by decide) (by first | assumption | omega) (by first | assumption | omega) (fun hcl => ?_) (fun hcl => ?_)
              · skip
                exact hret _ _ _ _ _ d_Sub_becomeCommutators_106 V ⟨q1, c1, hG1, sg_cs g hSs0 hSt0 hG1 hcm (fun t ht => hin t (by omega) ht) hK, hfr⟩
              · skip
                have hck : c1.getD k 0 < zz_N z := hG1.1.2.2.2.2 _ (ls_at_mem hcl)
                refine nw_aload_n X d_Sub_becomeCommutators_78 rfl (lv_at hl 0 rfl) ?_
                refine nw_aload_n X d_Sub_becomeCommutators_79 rfl (lv_at hl 0 rfl) ?_
                refine gf_Sub_30 X V h12 d_Sub_becomeCommutators_80 ?_
                refine nw_iload_n X d_Sub_becomeCommutators_83 rfl (lv_at hl 3 rfl) ?_
                refine hw_iald X V h16 0 rfl rfl (by omega) (by decide) d_Sub_becomeCommutators_84 ?_
                rw [hG1.1.2.2.2.1 k hcl]
                refine nw_aload_n X d_Sub_becomeCommutators_85 rfl (lv_at hl 1 rfl) ?_
                refine hw_callv X V h12 rfl rfl (cm_Sub_includeConjugates l z σ1 hz j hj hLo.1 q1 c1 (by rw [hLo.2]; exact hG1) _ hck js hjs hnes qs bs0 (sg_oth hSs0 hfr hnes)) cs_Sub_59 (by decide) rfl hl.1 rfl (Nat.le_of_ble_eq_true rfl) (by decide) d_Sub_becomeCommutators_86 (fun σ2 H locs V hr => ?_)
                obtain ⟨q2, c2, hG2, ⟨xs, exs, hxs⟩, hins, hfs⟩ := hr
                rw [hLo.2] at hG2 hxs hins
                have hB := V.1.2.2
                refine nw_aload_n X d_Sub_becomeCommutators_89 rfl (lv_at hl 0 rfl) ?_
                refine nw_aload_n X d_Sub_becomeCommutators_90 rfl (lv_at hl 0 rfl) ?_
                refine gf_Sub_30 X V h12 d_Sub_becomeCommutators_91 ?_
                refine nw_iload_n X d_Sub_becomeCommutators_94 rfl (lv_at hl 3 rfl) ?_
                have hgk : c2.getD k 0 = c1.getD k 0 := by rw [exs, List.getD_eq_getElem?_getD, List.getD_eq_getElem?_getD, List.getElem?_append_left hcl]
                have hcl2 : k < c2.length := by rw [exs, List.length_append]; omega
                have hfr2 := hfr.tr hfs
                have hLo2 := sg_lo hL hfr2
                refine hw_iald X V h16 0 rfl rfl (by omega) (by decide) d_Sub_becomeCommutators_95 ?_
                rw [hG2.1.2.2.2.1 k hcl2, hgk]
                refine nw_aload_n X d_Sub_becomeCommutators_96 rfl (lv_at hl 2 rfl) ?_
                refine hw_callv X V h12 rfl rfl (cm_Sub_includeConjugates l z σ2 hz j hj hLo2.1 q2 c2 (by rw [hLo2.2]; exact hG2) _ hck jt hjt hnet qt bt0 (sg_oth hSt0 hfr2 hnet)) cs_Sub_59 (by decide) rfl hl.1 rfl (Nat.le_of_ble_eq_true rfl) (by decide) d_Sub_becomeCommutators_97 (fun σ3 H locs V hr => ?_)
                obtain ⟨q3, c3, hG3, ⟨xt, ext, hxt⟩, hint, hft⟩ := hr
                rw [hLo2.2] at hG3 hxt hint
                have hB := V.1.2.2
                refine nw_iinc X (lv' := [(3, _), (0, _), (1, _), (2, _)]) (k := 3) 1 d_Sub_becomeCommutators_100 hl rfl (by decide) (by decide) rfl (fun ls hl => ?_)
                refine nw_goto X (tgt := 64) d_Sub_becomeCommutators_103 (by decide) ?_
                have hm3 := sg_mono hG2 hG3 (fun b hb => by rw [ext]; exact List.mem_append_left _ hb)
                have hm : ∀ x, x ∈ q1 → x ∈ q3 := fun x hx => hm3 x (sg_mono hG1 hG2 (fun b hb => by rw [exs]; exact List.mem_append_left _ hb) x hx)
                have hgd : ∀ t, t < c1.length → c3.getD t 0 = c1.getD t 0 := fun t ht => by rw [ext, exs, List.append_assoc, List.getD_eq_getElem?_getD, List.getD_eq_getElem?_getD, List.getElem?_append_left ht]
                exact IH64 (k + 1) q3 c3 _ _ _ _ (by omega) hc7 ((hfr.tr hfs).tr hft) hG3 (fun x y hx hy => hm _ (hcm x y hx hy)) (fun t h1 h2 => by
                  by_cases e : t = k
                  · rw [e, hgd k hcl]; exact ⟨fun b hb => hm3 _ (hins b hb), fun b hb => hint b hb⟩
                  · rw [hgd t (by omega)]
                    have h9 := hin t (by omega) (by omega)
                    exact ⟨fun b hb => hm _ (h9.1 b hb), fun b hb => hm _ (h9.2 b hb)⟩) (fun K hs h1 h2 h3 b hb => by
                  rw [ext, exs] at hb
                  rcases List.mem_append.mp hb with h | h
                  · rcases List.mem_append.mp h with h | h
                    · exact hK K hs h1 h2 h3 b h
                    · obtain ⟨b9, e1, e2⟩ := hxs b h
                      rw [e2]; exact h2 _ _ (hK K hs h1 h2 h3 _ (ls_at_mem hcl)) e1
                  · obtain ⟨b9, e1, e2⟩ := hxt b h
                    rw [e2]; exact h3 _ _ (hK K hs h1 h2 h3 _ (ls_at_mem hcl)) e1) V (lv_sub hl [1, 2, 3, 0] rfl)
        exact LP64 (7 + 1) 0 q1 c1 _ _ _ _ (by omega) (Nat.zero_le _) hfr hG1 hcm (fun t ht => absurd ht (Nat.not_lt_zero _)) (fun K hs h1 _ _ b hb => hK K hs h1 b hb) V (lv_sub hl [1, 2, 3, 0] rfl)
      · skip
        refine nw_iconst X 0 d_Sub_becomeCommutators_14 (by decide) ?_
        refine nw_istore X (lv' := [(4, _), (0, _), (1, _), (2, _), (3, _)]) d_Sub_becomeCommutators_15 hl (by decide) rfl (fun ls hl => ?_)
        have LP17 : ∀ (d u : Nat) (q1 c1 : List Nat) (σ1 : hw_M) (H : Heap) (locs : List Loc) (ls : Array Slot), bt0.length - u < d → (u ≤ bt0.length) → (sg_fr j σ σ1) → (sg_gp z (gr_p z σ) σ1 j q1 c1) → (∀ K : Nat → Prop, gp_sb (zz_N z) (gr_p z σ) K → (∀ x y, x ∈ bs0 → y ∈ bt0 → K (gp_cm (zz_N z) (gr_p z σ) x y)) → ∀ b, b ∈ c1 → K b) → (∀ t, t < i → ∀ y, y ∈ bt0 → gp_cm (zz_N z) (gr_p z σ) (bs0.getD t 0) y ∈ q1) → (∀ t, t < u → gp_cm (zz_N z) (gr_p z σ) (bs0.getD i 0) (bt0.getD t 0) ∈ q1) → zz_V z σ1 s.heap H locs →  lv_has ls 5 [(0, .ref (zz_A z (12, j))), (1, .ref (zz_A z (12, js))), (2, .ref (zz_A z (12, jt))), (3, .int (nI i)), (4, .int (nI u))] →  W p l e (hw_r 4) s m args below meth c H locs 0 0 Q (F0 m 17 ls []) := by
          intro d
          induction d with
          | zero => intro u q1 c1 σ1 H locs ls hd; exact absurd hd (Nat.not_lt_zero _)
          | succ d IH17 =>
            intro u q1 c1 σ1 H locs ls hd hul hfr hG1 hK hin hin2 V hl
            have hB := V.1.2.2
            have hLo := sg_lo hL hfr
            have hSs := sg_oth hSs0 hfr hnes
            have hSt := sg_oth hSt0 hfr hnet
            have hsl := hSs.2.2.1
            have htl := hSt.2.2.1
            refine nw_iload X d_Sub_becomeCommutators_17 (lv_at hl 4 rfl) ?_
            refine nw_aload_n X d_Sub_becomeCommutators_19 rfl (lv_at hl 2 rfl) ?_
            refine gf_Sub_34 X V h12t d_Sub_becomeCommutators_20 ?_
            rw [hSt.2.1]
            refine nw_icmp_ge X (tgt := 56) d_Sub_becomeCommutators_23 (by decide) (by first | assumption | omega) (by first | assumption | omega) (fun hcu => ?_) (fun hcu => ?_)
            · skip
              refine nw_iinc X (lv' := [(3, _), (0, _), (1, _), (2, _), (4, _)]) (k := 3) 1 d_Sub_becomeCommutators_56 hl rfl (by decide) (by decide) rfl (fun ls hl => ?_)
              refine nw_goto X (tgt := 6) d_Sub_becomeCommutators_59 (by decide) ?_
              exact IH6 (i + 1) q1 c1 _ _ _ _ (by omega) hci hfr hG1 hK (fun t ht y hy => by
                by_cases e : t = i
                · obtain ⟨u9, hu1, hu2⟩ := ls_mem_at hy
                  rw [e, ← hu2]; exact hin2 u9 (by omega)
                · exact hin t (by omega) y hy) V (lv_sub hl [1, 2, 3, 0] rfl)
            · skip
              have ha9 : bs0.getD i 0 < zz_N z := hSs.2.2.2.2 _ (ls_at_mem hci)
              have hb9 : bt0.getD u 0 < zz_N z := hSt.2.2.2.2 _ (ls_at_mem hcu)
              refine nw_aload_n X d_Sub_becomeCommutators_26 rfl (lv_at hl 0 rfl) ?_
              refine nw_aload_n X d_Sub_becomeCommutators_27 rfl (lv_at hl 0 rfl) ?_
              refine gf_Sub_9 X V h12 d_Sub_becomeCommutators_28 ?_
              refine nw_aload_n X d_Sub_becomeCommutators_31 rfl (lv_at hl 1 rfl) ?_
              refine gf_Sub_30 X V h12s d_Sub_becomeCommutators_32 ?_
              refine nw_iload_n X d_Sub_becomeCommutators_35 rfl (lv_at hl 3 rfl) ?_
              refine hw_iald X V h16s 0 rfl rfl (by omega) (by decide) d_Sub_becomeCommutators_36 ?_
              rw [hSs.2.2.2.1 i hci]
              refine nw_aload_n X d_Sub_becomeCommutators_37 rfl (lv_at hl 2 rfl) ?_
              refine gf_Sub_30 X V h12t d_Sub_becomeCommutators_38 ?_
              refine nw_iload X d_Sub_becomeCommutators_41 (lv_at hl 4 rfl) ?_
              refine hw_iald X V h16t 0 rfl rfl (by omega) (by decide) d_Sub_becomeCommutators_43 ?_
              rw [hSt.2.2.2.1 u hcu]
              refine hw_calli X V o1 rfl rfl (cm_Col_commutatorOf l z σ1 hz hLo.1 _ _ ha9 hb9) cs_Sub_66 (by decide) rfl hl.1 rfl (Nat.le_of_ble_eq_true rfl) (by decide) d_Sub_becomeCommutators_44 (fun r σ' H locs V hr => ?_)
              obtain ⟨hσ, rfl⟩ := hr
              rw [hσ] at V
              clear hσ
              have hB := V.1.2.2
              rw [hLo.2]
              refine hw_callv X V h12 rfl rfl (cm_Sub_include l z σ1 hz j hj hLo.1 q1 c1 (by rw [hLo.2]; exact hG1) _ (g.cml ha9 hb9)) cs_Sub_69 (by decide) rfl hl.1 rfl (Nat.le_of_ble_eq_true rfl) (by decide) d_Sub_becomeCommutators_47 (fun σ2 H locs V hr => ?_)
              obtain ⟨q2, c2, hG2, hin9, hc2, hf2⟩ := hr
              rw [hLo.2] at hG2
              have hB := V.1.2.2
              have hc12 : ∀ b, b ∈ c1 → b ∈ c2 := fun b hb => by rcases hc2 with e | e <;> rw [e]; exact hb; exact List.mem_append_left _ hb
              have hm := sg_mono hG1 hG2 hc12
              refine nw_iinc X (lv' := [(4, _), (0, _), (1, _), (2, _), (3, _)]) (k := 4) 1 d_Sub_becomeCommutators_50 hl rfl (by decide) (by decide) rfl (fun ls hl => ?_)
              refine nw_goto X (tgt := 17) d_Sub_becomeCommutators_53 (by decide) ?_
              exact IH17 (u + 1) q2 c2 _ _ _ _ (by omega) hcu (hfr.tr hf2) hG2 (fun K hs h1 b hb => by
                rcases hc2 with e | e
                · rw [e] at hb; exact hK K hs h1 b hb
                · rw [e] at hb
                  rcases List.mem_append.mp hb with h | h
                  · exact hK K hs h1 b h
                  · rw [List.mem_singleton] at h; rw [h]; exact h1 _ _ (ls_at_mem hci) (ls_at_mem hcu)) (fun t ht y hy => hm _ (hin t ht y hy)) (fun t ht => by
                by_cases e : t = u
                · rw [e]; exact hin9
                · exact hm _ (hin2 t (by omega))) V (lv_sub hl [1, 2, 3, 4, 0] rfl)
        exact LP17 (bt0.length + 1) 0 q1 c1 _ _ _ _ (by omega) (Nat.zero_le _) hfr hG1 hK hin (fun t ht => absurd ht (Nat.not_lt_zero _)) V (lv_sub hl [1, 2, 3, 4, 0] rfl)
  exact LP6 (bs0.length + 1) 0 [0] [] _ _ _ _ (by omega) (Nat.zero_le _) f0 hG0 (fun K _ _ b hb => absurd hb List.not_mem_nil) (fun t ht => absurd ht (Nat.not_lt_zero _)) V (lv_sub hl [1, 2, 3, 0] rfl)
