/-! Subgroups: conjugates and commutators of what generates. By program (wip/whole/gen/sub2.py). -/
set_option maxHeartbeats 4000000 in
set_option maxRecDepth 20000 in
theorem cm_Sub_includeConjugates (l : Launch) (z : zz_Z) (σ : hw_M) (hz : ∀ k, zz_k (zz_n z) k → zz_O z k) (j : Nat) (hj : j < 7) (hL : lo_ok z σ 0) (q bs : List Nat) (hG : sg_gp z (gr_p z σ) σ j q bs) (a : Nat) (ha : a < zz_N z) (js : Nat) (hjs : js < 7) (hnes : js ≠ j) (qs bs0 : List Nat) (hSs0 : sg_ok z σ js qs bs0) : Met l y_Sub_includeConjugates (hw_c y_Sub_includeConjugates b_Sub_includeConjugates 4 none) (hw_r 3) (va_Pc [.ref (zz_A z (12, j)), .int (nI a), .ref (zz_A z (12, js))] (zz_B z σ)) (va_Qv (fun σ' => ∃ q' c', sg_gp z (gr_p z σ) σ' j q' c' ∧ (∃ x, c' = bs ++ x ∧ ∀ y, y ∈ x → ∃ b, b ∈ bs0 ∧ y = gp_cj (zz_N z) (gr_p z σ) a b) ∧ (∀ b, b ∈ bs0 → gp_cj (zz_N z) (gr_p z σ) a b ∈ q') ∧ sg_fr j σ σ') (zz_B z) (zz_F z)) 0 0 (zz_F z) := by
  refine hw_metv (post := (fun σ' => ∃ q' c', sg_gp z (gr_p z σ) σ' j q' c' ∧ (∃ x, c' = bs ++ x ∧ ∀ y, y ∈ x → ∃ b, b ∈ bs0 ∧ y = gp_cj (zz_N z) (gr_p z σ) a b) ∧ (∀ b, b ∈ bs0 → gp_cj (zz_N z) (gr_p z σ) a b ∈ q') ∧ sg_fr j σ σ')) (by decide) (Nat.le_of_ble_eq_true rfl) ?_
  intro p e s m args below meth c ls Q X hret V hl
  have hl : lv_has ls 4 [(0, .ref (zz_A z (12, j))), (1, .int (nI a)), (2, .ref (zz_A z (12, js)))] := hl
  have hB := V.1.2.2
  have o1 : zz_O z (1, 0) := hz (1, 0) rfl
  have h12 : zz_O z (12, j) := hz (12, j) (show j < 7 by omega)
  have h13 : zz_O z (13, j) := hz (13, j) (show j < 8 by omega)
  have h14 : zz_O z (14, j) := hz (14, j) (show j < 8 by omega)
  have h15 : zz_O z (15, j) := hz (15, j) (show j < 8 by omega)
  have h16 : zz_O z (16, j) := hz (16, j) (show j < 7 by omega)
  obtain ⟨⟨hn7, hN, hn, hNe, hw, hsz, hln⟩, hk, ht⟩ := id hL
  have g := lo_gp hL
  have hE := hG.1.1
  have h12s : zz_O z (12, js) := hz (12, js) (show js < 7 by omega)
  have h13s : zz_O z (13, js) := hz (13, js) (show js < 8 by omega)
  have h14s : zz_O z (14, js) := hz (14, js) (show js < 8 by omega)
  have h15s : zz_O z (15, js) := hz (15, js) (show js < 8 by omega)
  have h16s : zz_O z (16, js) := hz (16, js) (show js < 7 by omega)
  have hsl0 := hSs0.2.2.1
  refine nw_iconst X 0 d_Sub_includeConjugates_0 (by decide) ?_
  refine nw_istore_n X (lv' := [(3, _), (0, _), (1, _), (2, _)]) d_Sub_includeConjugates_1 rfl hl (by decide) rfl (fun ls hl => ?_)
  have LP2 : ∀ (d i : Nat) (q1 c1 : List Nat) (σ1 : hw_M) (H : Heap) (locs : List Loc) (ls : Array Slot), bs0.length - i < d → (i ≤ bs0.length) → (sg_fr j σ σ1) → (sg_gp z (gr_p z σ) σ1 j q1 c1) → (∃ x, c1 = bs ++ x ∧ ∀ y, y ∈ x → ∃ b, b ∈ bs0 ∧ y = gp_cj (zz_N z) (gr_p z σ) a b) → (∀ t, t < i → gp_cj (zz_N z) (gr_p z σ) a (bs0.getD t 0) ∈ q1) → zz_V z σ1 s.heap H locs →  lv_has ls 4 [(0, .ref (zz_A z (12, j))), (1, .int (nI a)), (2, .ref (zz_A z (12, js))), (3, .int (nI i))] →  W p l e (hw_r 3) s m args below meth c H locs 0 0 Q (F0 m 2 ls []) := by
    intro d
    induction d with
    | zero => intro i q1 c1 σ1 H locs ls hd; exact absurd hd (Nat.not_lt_zero _)
    | succ d IH2 =>
      intro i q1 c1 σ1 H locs ls hd hil hfr hG1 hx hin V hl
      have hB := V.1.2.2
      have hLo := sg_lo hL hfr
      have hSs := sg_oth hSs0 hfr hnes
      have hsl := hSs.2.2.1
      refine nw_iload_n X d_Sub_includeConjugates_2 rfl (lv_at hl 3 rfl) ?_
      refine nw_aload_n X d_Sub_includeConjugates_3 rfl (lv_at hl 2 rfl) ?_
      refine gf_Sub_34 X V h12s d_Sub_includeConjugates_4 ?_
      rw [hSs.2.1]
      refine nw_icmp_ge X (tgt := 34) d_Sub_includeConjugates_7 (by decide) (by first | assumption | omega) (by first | assumption | omega) (fun hci => ?_) (fun hci => ?_)
      · skip
        exact hret _ _ _ _ _ d_Sub_includeConjugates_34 V ⟨q1, c1, hG1, hx, fun b hb => by obtain ⟨t, ht1, ht2⟩ := ls_mem_at hb; rw [← ht2]; exact hin t (by omega), hfr⟩
      · skip
        have hb9 : bs0.getD i 0 < zz_N z := hSs.2.2.2.2 _ (ls_at_mem hci)
        refine nw_aload_n X d_Sub_includeConjugates_10 rfl (lv_at hl 0 rfl) ?_
        refine nw_aload_n X d_Sub_includeConjugates_11 rfl (lv_at hl 0 rfl) ?_
        refine gf_Sub_9 X V h12 d_Sub_includeConjugates_12 ?_
        refine nw_iload_n X d_Sub_includeConjugates_15 rfl (lv_at hl 1 rfl) ?_
        refine nw_aload_n X d_Sub_includeConjugates_16 rfl (lv_at hl 2 rfl) ?_
        refine gf_Sub_30 X V h12s d_Sub_includeConjugates_17 ?_
        refine nw_iload_n X d_Sub_includeConjugates_20 rfl (lv_at hl 3 rfl) ?_
        refine hw_iald X V h16s 0 rfl rfl (by omega) (by decide) d_Sub_includeConjugates_21 ?_
        rw [hSs.2.2.2.1 i hci]
        refine hw_calli X V o1 rfl rfl (cm_Col_conjugateOf l z σ1 hz hLo.1 _ _ ha hb9) cs_Sub_78 (by decide) rfl hl.1 rfl (Nat.le_of_ble_eq_true rfl) (by decide) d_Sub_includeConjugates_22 (fun r σ' H locs V hr => ?_)
        obtain ⟨hσ, rfl⟩ := hr
        rw [hσ] at V
        clear hσ
        have hB := V.1.2.2
        rw [hLo.2]
        refine hw_callv X V h12 rfl rfl (cm_Sub_include l z σ1 hz j hj hLo.1 q1 c1 (by rw [hLo.2]; exact hG1) _ (g.cjl ha hb9)) cs_Sub_69 (by decide) rfl hl.1 rfl (Nat.le_of_ble_eq_true rfl) (by decide) d_Sub_includeConjugates_25 (fun σ2 H locs V hr => ?_)
        obtain ⟨q2, c2, hG2, hin2, hc2, hf2⟩ := hr
        rw [hLo.2] at hG2
        have hB := V.1.2.2
        have hc12 : ∀ b, b ∈ c1 → b ∈ c2 := fun b hb => by rcases hc2 with e | e <;> rw [e]; exact hb; exact List.mem_append_left _ hb
        have hm := sg_mono hG1 hG2 hc12
        refine nw_iinc X (lv' := [(3, _), (0, _), (1, _), (2, _)]) (k := 3) 1 d_Sub_includeConjugates_28 hl rfl (by decide) (by decide) rfl (fun ls hl => ?_)
        refine nw_goto X (tgt := 2) d_Sub_includeConjugates_31 (by decide) ?_
        exact IH2 (i + 1) q2 c2 _ _ _ _ (by omega) hci (hfr.tr hf2) hG2 (by
          obtain ⟨x, e1, e2⟩ := hx
          rcases hc2 with e | e
          · rw [e]; exact ⟨x, e1, e2⟩
          · rw [e, e1, List.append_assoc]
            refine ⟨x ++ [_], rfl, fun y hy => ?_⟩
            rcases List.mem_append.mp hy with h | h
            · exact e2 y h
            · rw [List.mem_singleton] at h
              exact ⟨_, ls_at_mem hci, h⟩) (fun t ht => by
          by_cases e : t = i
          · rw [e]; exact hin2
          · exact hm _ (hin t (by omega))) V (lv_sub hl [1, 2, 3, 0] rfl)
  exact LP2 (bs0.length + 1) 0 q bs _ _ _ _ (by omega) (Nat.zero_le _) sg_fr.rf hG ⟨[], (List.append_nil _).symm, fun y hy => absurd hy List.not_mem_nil⟩ (fun t ht => absurd ht (Nat.not_lt_zero _)) V (lv_sub hl [1, 2, 3, 0] rfl)
set_option maxHeartbeats 4000000 in
set_option maxRecDepth 20000 in
theorem cm_Sub_includeAllConjugates (l : Launch) (z : zz_Z) (σ : hw_M) (hz : ∀ k, zz_k (zz_n z) k → zz_O z k) (j : Nat) (hj : j < 7) (hL : lo_ok z σ 0) (q bs : List Nat) (hG : sg_gp z (gr_p z σ) σ j q bs) (js : Nat) (hjs : js < 7) (hnes : js ≠ j) (qs bs0 : List Nat) (hSs0 : sg_ok z σ js qs bs0) : Met l y_Sub_includeAllConjugates (hw_c y_Sub_includeAllConjugates b_Sub_includeAllConjugates 3 none) (hw_r 4) (va_Pc [.ref (zz_A z (12, j)), .ref (zz_A z (12, js))] (zz_B z σ)) (va_Qv (fun σ' => ∃ q' c', sg_gp z (gr_p z σ) σ' j q' c' ∧ (∀ b, b ∈ bs → b ∈ c') ∧ (∀ y b, y ∈ c' → b ∈ bs0 → gp_cj (zz_N z) (gr_p z σ) y b ∈ q') ∧ (∀ K : Nat → Prop, gp_sb (zz_N z) (gr_p z σ) K → (∀ b, b ∈ bs → K b) → (∀ k b, K k → b ∈ bs0 → K (gp_cj (zz_N z) (gr_p z σ) k b)) → ∀ b, b ∈ c' → K b) ∧ sg_fr j σ σ') (zz_B z) (zz_F z)) 0 0 (zz_F z) := by
  refine hw_metv (post := (fun σ' => ∃ q' c', sg_gp z (gr_p z σ) σ' j q' c' ∧ (∀ b, b ∈ bs → b ∈ c') ∧ (∀ y b, y ∈ c' → b ∈ bs0 → gp_cj (zz_N z) (gr_p z σ) y b ∈ q') ∧ (∀ K : Nat → Prop, gp_sb (zz_N z) (gr_p z σ) K → (∀ b, b ∈ bs → K b) → (∀ k b, K k → b ∈ bs0 → K (gp_cj (zz_N z) (gr_p z σ) k b)) → ∀ b, b ∈ c' → K b) ∧ sg_fr j σ σ')) (by decide) (Nat.le_of_ble_eq_true rfl) ?_
  intro p e s m args below meth c ls Q X hret V hl
  have hl : lv_has ls 3 [(0, .ref (zz_A z (12, j))), (1, .ref (zz_A z (12, js)))] := hl
  have hB := V.1.2.2
  have o1 : zz_O z (1, 0) := hz (1, 0) rfl
  have h12 : zz_O z (12, j) := hz (12, j) (show j < 7 by omega)
  have h13 : zz_O z (13, j) := hz (13, j) (show j < 8 by omega)
  have h14 : zz_O z (14, j) := hz (14, j) (show j < 8 by omega)
  have h15 : zz_O z (15, j) := hz (15, j) (show j < 8 by omega)
  have h16 : zz_O z (16, j) := hz (16, j) (show j < 7 by omega)
  obtain ⟨⟨hn7, hN, hn, hNe, hw, hsz, hln⟩, hk, ht⟩ := id hL
  have g := lo_gp hL
  have hE := hG.1.1
  have h12s : zz_O z (12, js) := hz (12, js) (show js < 7 by omega)
  have h13s : zz_O z (13, js) := hz (13, js) (show js < 8 by omega)
  have h14s : zz_O z (14, js) := hz (14, js) (show js < 8 by omega)
  have h15s : zz_O z (15, js) := hz (15, js) (show js < 8 by omega)
  have h16s : zz_O z (16, js) := hz (16, js) (show js < 7 by omega)
  refine nw_iconst X 0 d_Sub_includeAllConjugates_0 (by decide) ?_
  refine nw_istore_n X (lv' := [(2, _), (0, _), (1, _)]) d_Sub_includeAllConjugates_1 rfl hl (by decide) rfl (fun ls hl => ?_)
  have LP2 : ∀ (d k : Nat) (q1 c1 : List Nat) (σ1 : hw_M) (H : Heap) (locs : List Loc) (ls : Array Slot), 7 - k < d → (k ≤ 7) → (sg_fr j σ σ1) → (sg_gp z (gr_p z σ) σ1 j q1 c1) → (∀ b, b ∈ bs → b ∈ c1) → (∀ t, t < k → t < c1.length → ∀ b, b ∈ bs0 → gp_cj (zz_N z) (gr_p z σ) (c1.getD t 0) b ∈ q1) → (∀ K : Nat → Prop, gp_sb (zz_N z) (gr_p z σ) K → (∀ b, b ∈ bs → K b) → (∀ k b, K k → b ∈ bs0 → K (gp_cj (zz_N z) (gr_p z σ) k b)) → ∀ b, b ∈ c1 → K b) → zz_V z σ1 s.heap H locs →  lv_has ls 3 [(0, .ref (zz_A z (12, j))), (1, .ref (zz_A z (12, js))), (2, .int (nI k))] →  W p l e (hw_r 4) s m args below meth c H locs 0 0 Q (F0 m 2 ls []) := by
    intro d
    induction d with
    | zero => intro k q1 c1 σ1 H locs ls hd; exact absurd hd (Nat.not_lt_zero _)
    | succ d IH2 =>
      intro k q1 c1 σ1 H locs ls hd hk7 hfr hG1 hsub hin hK V hl
      have hB := V.1.2.2
      have hLo := sg_lo hL hfr
      have hSs := sg_oth hSs0 hfr hnes
      have hsl := hSs.2.2.1
      have hcl7 := hG1.1.2.2.1
      refine nw_iload_n X d_Sub_includeAllConjugates_2 rfl (lv_at hl 2 rfl) ?_
      refine nw_bipush X 7 d_Sub_includeAllConjugates_3 (by decide) ?_
      refine nw_icmp_ge X (tgt := 33) d_Sub_includeAllConjugates_5 (by decide) (by omega) (by decide) (fun hc7 => ?_) (fun hc7 => ?_)
      · skip
        exact hret _ _ _ _ _ d_Sub_includeAllConjugates_33 V ⟨q1, c1, hG1, hsub, fun y b hy hb => by obtain ⟨t, ht1, ht2⟩ := ls_mem_at hy; rw [← ht2]; exact hin t (by omega) ht1 b hb, hK, hfr⟩
      · skip
        refine nw_iload_n X d_Sub_includeAllConjugates_8 rfl (lv_at hl 2 rfl) ?_
        refine nw_aload_n X d_Sub_includeAllConjugates_9 rfl (lv_at hl 0 rfl) ?_
        refine gf_Sub_34 X V h12 d_Sub_includeAllConjugates_10 ?_
        rw [hG1.1.2.1]
        refine nw_icmp_ge X (tgt := 33) d_Sub_includeAllConjugates_13 (by decide) (by first | assumption | omega) (by first | assumption | omega) (fun hcl => ?_) (fun hcl => ?_)
        · skip
          exact hret _ _ _ _ _ d_Sub_includeAllConjugates_33 V ⟨q1, c1, hG1, hsub, fun y b hy hb => by obtain ⟨t, ht1, ht2⟩ := ls_mem_at hy; rw [← ht2]; exact hin t (by omega) ht1 b hb, hK, hfr⟩
        · skip
          have hck : c1.getD k 0 < zz_N z := hG1.1.2.2.2.2 _ (ls_at_mem hcl)
          refine nw_aload_n X d_Sub_includeAllConjugates_16 rfl (lv_at hl 0 rfl) ?_
          refine nw_aload_n X d_Sub_includeAllConjugates_17 rfl (lv_at hl 0 rfl) ?_
          refine gf_Sub_30 X V h12 d_Sub_includeAllConjugates_18 ?_
          refine nw_iload_n X d_Sub_includeAllConjugates_21 rfl (lv_at hl 2 rfl) ?_
          refine hw_iald X V h16 0 rfl rfl (by omega) (by decide) d_Sub_includeAllConjugates_22 ?_
          rw [hG1.1.2.2.2.1 k hcl]
          refine nw_aload_n X d_Sub_includeAllConjugates_23 rfl (lv_at hl 1 rfl) ?_
          refine hw_callv X V h12 rfl rfl (cm_Sub_includeConjugates l z σ1 hz j hj hLo.1 q1 c1 (by rw [hLo.2]; exact hG1) _ hck js hjs hnes qs bs0 (sg_oth hSs0 hfr hnes)) cs_Sub_59 (by decide) rfl hl.1 rfl (Nat.le_of_ble_eq_true rfl) (by decide) d_Sub_includeAllConjugates_24 (fun σ2 H locs V hr => ?_)
          obtain ⟨q2, c2, hG2, ⟨x2, ex2, hx2⟩, hin2, hf2⟩ := hr
          rw [hLo.2] at hG2 hx2 hin2
          have hB := V.1.2.2
          refine nw_iinc X (lv' := [(2, _), (0, _), (1, _)]) (k := 2) 1 d_Sub_includeAllConjugates_27 hl rfl (by decide) (by decide) rfl (fun ls hl => ?_)
          refine nw_goto X (tgt := 2) d_Sub_includeAllConjugates_30 (by decide) ?_
          have hc12 : ∀ b, b ∈ c1 → b ∈ c2 := fun b hb => by rw [ex2]; exact List.mem_append_left _ hb
          have hm := sg_mono hG1 hG2 hc12
          have hgd : ∀ t, t < c1.length → c2.getD t 0 = c1.getD t 0 := fun t ht => by rw [ex2, List.getD_eq_getElem?_getD, List.getD_eq_getElem?_getD, List.getElem?_append_left ht]
          exact IH2 (k + 1) q2 c2 _ _ _ _ (by omega) hc7 (hfr.tr hf2) hG2 (fun b hb => hc12 b (hsub b hb)) (fun t h1 h2 b hb => by
            by_cases e : t = k
            · rw [e, hgd k hcl]; exact hin2 b hb
            · rw [hgd t (by omega)]; exact hm _ (hin t (by omega) (by omega) b hb)) (fun K hs h1 h2 b hb => by
            rw [ex2] at hb
            rcases List.mem_append.mp hb with h | h
            · exact hK K hs h1 h2 b h
            · obtain ⟨b9, e1, e2⟩ := hx2 b h
              rw [e2]
              exact h2 _ _ (hK K hs h1 h2 _ (ls_at_mem hcl)) e1) V (lv_sub hl [1, 2, 0] rfl)
  exact LP2 (7 + 1) 0 q bs _ _ _ _ (by omega) (Nat.zero_le _) sg_fr.rf hG (fun b hb => hb) (fun t ht => absurd ht (Nat.not_lt_zero _)) (fun K _ h1 _ b hb => h1 b hb) V (lv_sub hl [1, 2, 0] rfl)
