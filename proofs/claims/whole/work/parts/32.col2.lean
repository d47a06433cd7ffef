/-! The Collector: inverse, conjugates, orders. By program (wip/whole/gen/col2.py). -/
set_option maxHeartbeats 4000000 in
set_option maxRecDepth 20000 in
theorem cm_Col_inverseOf (l : Launch) (z : zz_Z) (σ : hw_M) (hz : ∀ k, zz_k (zz_n z) k → zz_O z k) (hL : lo_ok z σ 0) (a : Nat) (ha : a < zz_N z) : Met l y_Col_inverseOf (hw_c y_Col_inverseOf b_Col_inverseOf 8 (some .int)) (hw_r 0) (va_Pc [.ref (zz_A z (1, 0)), .int (nI a)] (zz_B z σ)) (va_Qi (fun r σ' => σ' = σ ∧ r = nI (gp_iv (zz_N z) (gr_p z σ) a)) (zz_B z) (zz_F z)) 0 0 (zz_F z) := by
  refine hw_meti (post := (fun r σ' => σ' = σ ∧ r = nI (gp_iv (zz_N z) (gr_p z σ) a))) (by decide) (Nat.le_of_ble_eq_true rfl) ?_
  intro p e s m args below meth c ls Q X hret V hl
  have hl : lv_has ls 8 [(0, .ref (zz_A z (1, 0))), (1, .int (nI a))] := hl
  have hB := V.1.2.2
  obtain ⟨⟨hn7, hN, hn, hNe, hw, hsz, hln⟩, hk, ht⟩ := id hL
  have ha0 : a < mo_z z σ (zz_n z - 0) := Nat.lt_of_lt_of_eq ha hsz
  refine nw_iload_n X d_Col_inverseOf_0 rfl (lv_at hl 1 rfl) ?_
  refine nw_istore_n X (lv' := [(2, _), (0, _), (1, _)]) d_Col_inverseOf_1 rfl hl (by decide) rfl (fun ls hl => ?_)
  refine nw_iconst X 0 d_Col_inverseOf_2 (by decide) ?_
  refine nw_istore_n X (lv' := [(3, _), (2, _), (0, _), (1, _)]) d_Col_inverseOf_3 rfl hl (by decide) rfl (fun ls hl => ?_)
  refine nw_iconst X 0 d_Col_inverseOf_4 (by decide) ?_
  refine nw_istore X (lv' := [(4, _), (3, _), (2, _), (0, _), (1, _)]) d_Col_inverseOf_5 hl (by decide) rfl (fun ls hl => ?_)
  have LP7 : ∀ (d i left inv : Nat) (ls : Array Slot), zz_n z - i < d → (i ≤ zz_n z) → (left < mo_z z σ (zz_n z - i)) → (inv + mo_i z σ (zz_n z - i) left = mo_i z σ (zz_n z) a) →  lv_has ls 8 [(0, .ref (zz_A z (1, 0))), (2, .int (nI left)), (3, .int (nI inv)), (4, .int (nI i))] →  W p l e (hw_r 0) s m args below meth c s.heap [] 0 0 Q (F0 m 7 ls []) := by
    intro d
    induction d with
    | zero => intro i left inv ls hd; exact absurd hd (Nat.not_lt_zero _)
    | succ d IH7 =>
      intro i left inv ls hd hin ha1 hinv hl
      refine nw_iload X d_Col_inverseOf_7 (lv_at hl 3 rfl) ?_
      refine nw_aload_n X d_Col_inverseOf_9 rfl (lv_at hl 0 rfl) ?_
      refine gf_Col_7 X V (hz (1, 0) (by first | exact rfl | assumption | exact (by omega : _ < _))) d_Col_inverseOf_10 ?_
      rw [hn]
      refine nw_icmp_ge X (tgt := 80) d_Col_inverseOf_13 (by decide) (by first | assumption | omega) (by first | assumption | omega) (fun hc => ?_) (fun hc => ?_)
      · skip
        have ei : zz_n z - i = 0 := by omega
        rw [ei] at hinv
        have hinv : inv + 0 = _ := hinv
        rw [Nat.add_zero] at hinv
        refine nw_iload_n X d_Col_inverseOf_80 rfl (lv_at hl 2 rfl) ?_
        exact hret _ _ _ _ _ _ d_Col_inverseOf_81 V ⟨rfl, by rw [hinv, mo_iv hL ha]⟩
      · skip
        have hi := hc
        have hq := st_lv hL.1 hi
        have hs := tw_istep hw hi (hk.le (by omega)) (ht i (by omega) hi) ha1
        have ez := st_sz hL.1 hi
        have ha2 : left < σ (2, 0) i * σ (3, 0) i := by rw [← ez.1]; exact ha1
        have he := hs.1
        refine nw_aload_n X d_Col_inverseOf_16 rfl (lv_at hl 0 rfl) ?_
        refine gf_Col_17 X V (hz (1, 0) (by first | exact rfl | assumption | exact (by omega : _ < _))) d_Col_inverseOf_17 ?_
        refine nw_iload X d_Col_inverseOf_20 (lv_at hl 3 rfl) ?_
        refine hw_iald X V (hz (3, 0) (by first | exact rfl | assumption | exact (by omega : _ < _))) 0 rfl rfl hi (by omega) d_Col_inverseOf_22 ?_
        refine nw_istore X (lv' := [(5, _), (0, _), (2, _), (3, _), (4, _)]) d_Col_inverseOf_23 hl (by decide) rfl (fun ls hl => ?_)
        refine nw_iload_n X d_Col_inverseOf_25 rfl (lv_at hl 2 rfl) ?_
        refine nw_iload X d_Col_inverseOf_26 (lv_at hl 0 rfl) ?_
        refine nw_idiv X (by omega) (by omega) (by omega) d_Col_inverseOf_28 ?_
        refine nw_istore X (lv' := [(6, _), (5, _), (0, _), (2, _), (3, _), (4, _)]) d_Col_inverseOf_29 hl (by decide) rfl (fun ls hl => ?_)
        refine nw_iload_n X d_Col_inverseOf_31 rfl (lv_at hl 3 rfl) ?_
        refine nw_iload X d_Col_inverseOf_32 (lv_at hl 1 rfl) ?_
        refine nw_irem X (by omega) (by omega) (by omega) d_Col_inverseOf_34 ?_
        refine nw_istore_n X (lv' := [(2, _), (6, _), (5, _), (0, _), (3, _), (4, _)]) d_Col_inverseOf_35 rfl hl (by decide) rfl (fun ls hl => ?_)
        refine nw_iload X d_Col_inverseOf_36 (lv_at hl 1 rfl) ?_
        refine nw_if_le X (tgt := 74) d_Col_inverseOf_38 (by decide) (by omega) (fun hc => ?_) (fun hc => ?_)
        · skip
          have hlt := hs.2.1
          have hr2 : inv + mo_i z σ (zz_n z - (i + 1)) (left % σ (3, 0) i) = mo_i z σ (zz_n z) a := by rw [← hinv]; exact congrArg (inv + ·) (hs.2.2.2 hc).symm
          refine nw_iinc X (lv' := [(4, _), (2, _), (6, _), (5, _), (0, _), (3, _)]) (k := 5) 1 d_Col_inverseOf_74 hl rfl (by decide) (by decide) rfl (fun ls hl => ?_)
          refine nw_goto X (tgt := 7) d_Col_inverseOf_77 (by decide) ?_
          exact IH7 (i + 1) _ _ _ (by omega) hi (by rw [ez.2]; exact hlt) hr2 (lv_sub hl [4, 1, 5, 0] rfl)
        · skip
          have h3 := hs.2.2.1 hc
          have hlt := h3.2.1
          have hr2 : inv + (σ (2, 0) i - left / σ (3, 0) i) * σ (3, 0) i + mo_i z σ (zz_n z - (i + 1)) (σ (10, i) ((σ (2, 0) i - left / σ (3, 0) i) * σ (3, 0) i + left % σ (3, 0) i)) = mo_i z σ (zz_n z) a := by rw [← hinv, Nat.add_assoc]; exact congrArg (inv + ·) h3.2.2.symm
          refine nw_aload_n X d_Col_inverseOf_41 rfl (lv_at hl 3 rfl) ?_
          refine gf_Col_13 X V (hz (1, 0) (by first | exact rfl | assumption | exact (by omega : _ < _))) d_Col_inverseOf_42 ?_
          refine nw_iload X d_Col_inverseOf_45 (lv_at hl 5 rfl) ?_
          refine hw_iald X V (hz (2, 0) (by first | exact rfl | assumption | exact (by omega : _ < _))) 0 rfl rfl hi (by omega) d_Col_inverseOf_47 ?_
          refine nw_iload X d_Col_inverseOf_48 (lv_at hl 1 rfl) ?_
          refine nw_isub X (by omega) d_Col_inverseOf_50 ?_
          refine nw_iload X d_Col_inverseOf_51 (lv_at hl 2 rfl) ?_
          refine nw_imul X d_Col_inverseOf_53 ?_
          refine nw_istore X (lv' := [(7, _), (2, _), (6, _), (5, _), (0, _), (3, _), (4, _)]) d_Col_inverseOf_54 hl (by decide) rfl (fun ls hl => ?_)
          refine nw_iload_n X d_Col_inverseOf_56 rfl (lv_at hl 5 rfl) ?_
          refine nw_iload X d_Col_inverseOf_57 (lv_at hl 0 rfl) ?_
          refine nw_iadd X d_Col_inverseOf_59 ?_
          refine nw_istore_n X (lv' := [(3, _), (7, _), (2, _), (6, _), (5, _), (0, _), (4, _)]) d_Col_inverseOf_60 rfl hl (by decide) rfl (fun ls hl => ?_)
          refine nw_aload_n X d_Col_inverseOf_61 rfl (lv_at hl 5 rfl) ?_
          refine gf_Col_32 X V (hz (1, 0) (by first | exact rfl | assumption | exact (by omega : _ < _))) d_Col_inverseOf_62 ?_
          refine nw_iload X d_Col_inverseOf_65 (lv_at hl 6 rfl) ?_
          refine hw_aald X V (hz (9, 0) (by first | exact rfl | assumption | exact (by omega : _ < _))) 2 rfl rfl rfl hi (by omega) rfl d_Col_inverseOf_67 ?_
          refine nw_iload X d_Col_inverseOf_68 (lv_at hl 1 rfl) ?_
          refine nw_iload_n X d_Col_inverseOf_70 rfl (lv_at hl 2 rfl) ?_
          refine nw_iadd X d_Col_inverseOf_71 ?_
          refine hw_iald X V (hz (10, i) (by first | exact rfl | assumption | exact (by omega : _ < _))) 0 rfl rfl (Nat.lt_of_lt_of_eq h3.1 hq.2.2.2.2.2.1.symm) (Nat.lt_of_le_of_lt (Nat.le_of_eq hq.2.2.2.2.2.1) (by omega)) d_Col_inverseOf_72 ?_
          refine nw_istore_n X (lv' := [(2, _), (3, _), (7, _), (6, _), (5, _), (0, _), (4, _)]) d_Col_inverseOf_73 rfl hl (by decide) rfl (fun ls hl => ?_)
          refine nw_iinc X (lv' := [(4, _), (2, _), (3, _), (7, _), (6, _), (5, _), (0, _)]) (k := 6) 1 d_Col_inverseOf_74 hl rfl (by decide) (by decide) rfl (fun ls hl => ?_)
          refine nw_goto X (tgt := 7) d_Col_inverseOf_77 (by decide) ?_
          exact IH7 (i + 1) _ _ _ (by omega) hi (by rw [ez.2]; exact hlt) hr2 (lv_sub hl [6, 1, 2, 0] rfl)
  exact LP7 (zz_n z + 1) 0 a 0 _ (by omega) (Nat.zero_le _) ha0 (Nat.zero_add _) (lv_sub hl [3, 2, 1, 0] rfl)
set_option maxHeartbeats 4000000 in
set_option maxRecDepth 20000 in
theorem cm_Col_multiply (l : Launch) (z : zz_Z) (σ : hw_M) (hz : ∀ k, zz_k (zz_n z) k → zz_O z k) (hL : lo_ok z σ 0) (a b : Nat) (ha : a < zz_N z) (hb : b < zz_N z) : Met l y_Col_multiply (hw_c y_Col_multiply b_Col_multiply 3 (some .int)) (hw_r 1) (va_Pc [.ref (zz_A z (1, 0)), .int (nI a), .int (nI b)] (zz_B z σ)) (va_Qi (fun r σ' => σ' = σ ∧ r = nI (gr_p z σ a b)) (zz_B z) (zz_F z)) 0 0 (zz_F z) := by
  refine hw_meti (post := (fun r σ' => σ' = σ ∧ r = nI (gr_p z σ a b))) (by decide) (Nat.le_of_ble_eq_true rfl) ?_
  intro p e s m args below meth c ls Q X hret V hl
  have hl : lv_has ls 3 [(0, .ref (zz_A z (1, 0))), (1, .int (nI a)), (2, .int (nI b))] := hl
  have hB := V.1.2.2
  obtain ⟨⟨hn7, hN, hn, hNe, hw, hsz, hln⟩, hk, ht⟩ := id hL
  refine nw_aload_n X d_Col_multiply_0 rfl (lv_at hl 0 rfl) ?_
  refine nw_iconst X 0 d_Col_multiply_1 (by decide) ?_
  refine nw_iload_n X d_Col_multiply_2 rfl (lv_at hl 1 rfl) ?_
  refine nw_iload_n X d_Col_multiply_3 rfl (lv_at hl 2 rfl) ?_
  refine hw_calli X V (hz (1, 0) (by first | exact rfl | assumption | exact (by omega : _ < _))) rfl rfl (cm_Col_multiplyFrom l z σ hz 0 a b (Nat.zero_le _) hL (Nat.lt_of_lt_of_eq ha hsz) (Nat.lt_of_lt_of_eq hb hsz)) cs_Col_58 (by decide) rfl hl.1 rfl (Nat.le_of_ble_eq_true rfl) (by decide) d_Col_multiply_4 (fun r σ' H locs V hr => ?_)
  obtain ⟨hσ, rfl⟩ := hr
  rw [hσ] at V
  clear hσ
  have hB := V.1.2.2
  exact hret _ _ _ _ _ _ d_Col_multiply_7 V ⟨rfl, rfl⟩
set_option maxHeartbeats 4000000 in
set_option maxRecDepth 20000 in
theorem cm_Col_conjugateOf (l : Launch) (z : zz_Z) (σ : hw_M) (hz : ∀ k, zz_k (zz_n z) k → zz_O z k) (hL : lo_ok z σ 0) (a b : Nat) (ha : a < zz_N z) (hb : b < zz_N z) : Met l y_Col_conjugateOf (hw_c y_Col_conjugateOf b_Col_conjugateOf 3 (some .int)) (hw_r 2) (va_Pc [.ref (zz_A z (1, 0)), .int (nI a), .int (nI b)] (zz_B z σ)) (va_Qi (fun r σ' => σ' = σ ∧ r = nI (gp_cj (zz_N z) (gr_p z σ) a b)) (zz_B z) (zz_F z)) 0 0 (zz_F z) := by
  refine hw_meti (post := (fun r σ' => σ' = σ ∧ r = nI (gp_cj (zz_N z) (gr_p z σ) a b))) (by decide) (Nat.le_of_ble_eq_true rfl) ?_
  intro p e s m args below meth c ls Q X hret V hl
  have hl : lv_has ls 3 [(0, .ref (zz_A z (1, 0))), (1, .int (nI a)), (2, .int (nI b))] := hl
  have hB := V.1.2.2
  obtain ⟨⟨hn7, hN, hn, hNe, hw, hsz, hln⟩, hk, ht⟩ := id hL
  have g := lo_gp hL
  refine nw_aload_n X d_Col_conjugateOf_0 rfl (lv_at hl 0 rfl) ?_
  refine nw_aload_n X d_Col_conjugateOf_1 rfl (lv_at hl 0 rfl) ?_
  refine nw_iload_n X d_Col_conjugateOf_2 rfl (lv_at hl 2 rfl) ?_
  refine hw_calli X V (hz (1, 0) (by first | exact rfl | assumption | exact (by omega : _ < _))) rfl rfl (cm_Col_inverseOf l z σ hz hL b hb) cs_Col_62 (by decide) rfl hl.1 rfl (Nat.le_of_ble_eq_true rfl) (by decide) d_Col_conjugateOf_3 (fun r σ' H locs V hr => ?_)
  obtain ⟨hσ, rfl⟩ := hr
  rw [hσ] at V
  clear hσ
  have hB := V.1.2.2
  refine nw_aload_n X d_Col_conjugateOf_6 rfl (lv_at hl 0 rfl) ?_
  refine nw_iload_n X d_Col_conjugateOf_7 rfl (lv_at hl 1 rfl) ?_
  refine nw_iload_n X d_Col_conjugateOf_8 rfl (lv_at hl 2 rfl) ?_
  refine hw_calli X V (hz (1, 0) (by first | exact rfl | assumption | exact (by omega : _ < _))) rfl rfl (cm_Col_multiply l z σ hz hL a b ha hb) cs_Col_66 (by decide) rfl hl.1 rfl (Nat.le_of_ble_eq_true rfl) (by decide) d_Col_conjugateOf_9 (fun r σ' H locs V hr => ?_)
  obtain ⟨hσ, rfl⟩ := hr
  rw [hσ] at V
  clear hσ
  have hB := V.1.2.2
  refine hw_calli X V (hz (1, 0) (by first | exact rfl | assumption | exact (by omega : _ < _))) rfl rfl (cm_Col_multiply l z σ hz hL _ _ (g.ivl hb) (g.lt ha hb)) cs_Col_66 (by decide) rfl hl.1 rfl (Nat.le_of_ble_eq_true rfl) (by decide) d_Col_conjugateOf_12 (fun r σ' H locs V hr => ?_)
  obtain ⟨hσ, rfl⟩ := hr
  rw [hσ] at V
  clear hσ
  have hB := V.1.2.2
  exact hret _ _ _ _ _ _ d_Col_conjugateOf_15 V ⟨rfl, by unfold gp_cj; rw [g.as (g.ivl hb) ha hb]⟩
set_option maxHeartbeats 4000000 in
set_option maxRecDepth 20000 in
theorem cm_Col_commutatorOf (l : Launch) (z : zz_Z) (σ : hw_M) (hz : ∀ k, zz_k (zz_n z) k → zz_O z k) (hL : lo_ok z σ 0) (a b : Nat) (ha : a < zz_N z) (hb : b < zz_N z) : Met l y_Col_commutatorOf (hw_c y_Col_commutatorOf b_Col_commutatorOf 3 (some .int)) (hw_r 3) (va_Pc [.ref (zz_A z (1, 0)), .int (nI a), .int (nI b)] (zz_B z σ)) (va_Qi (fun r σ' => σ' = σ ∧ r = nI (gp_cm (zz_N z) (gr_p z σ) a b)) (zz_B z) (zz_F z)) 0 0 (zz_F z) := by
  refine hw_meti (post := (fun r σ' => σ' = σ ∧ r = nI (gp_cm (zz_N z) (gr_p z σ) a b))) (by decide) (Nat.le_of_ble_eq_true rfl) ?_
  intro p e s m args below meth c ls Q X hret V hl
  have hl : lv_has ls 3 [(0, .ref (zz_A z (1, 0))), (1, .int (nI a)), (2, .int (nI b))] := hl
  have hB := V.1.2.2
  obtain ⟨⟨hn7, hN, hn, hNe, hw, hsz, hln⟩, hk, ht⟩ := id hL
  have g := lo_gp hL
  refine nw_aload_n X d_Col_commutatorOf_0 rfl (lv_at hl 0 rfl) ?_
  refine nw_aload_n X d_Col_commutatorOf_1 rfl (lv_at hl 0 rfl) ?_
  refine nw_iload_n X d_Col_commutatorOf_2 rfl (lv_at hl 1 rfl) ?_
  refine hw_calli X V (hz (1, 0) (by first | exact rfl | assumption | exact (by omega : _ < _))) rfl rfl (cm_Col_inverseOf l z σ hz hL a ha) cs_Col_62 (by decide) rfl hl.1 rfl (Nat.le_of_ble_eq_true rfl) (by decide) d_Col_commutatorOf_3 (fun r σ' H locs V hr => ?_)
  obtain ⟨hσ, rfl⟩ := hr
  rw [hσ] at V
  clear hσ
  have hB := V.1.2.2
  refine nw_aload_n X d_Col_commutatorOf_6 rfl (lv_at hl 0 rfl) ?_
  refine nw_iload_n X d_Col_commutatorOf_7 rfl (lv_at hl 1 rfl) ?_
  refine nw_iload_n X d_Col_commutatorOf_8 rfl (lv_at hl 2 rfl) ?_
  refine hw_calli X V (hz (1, 0) (by first | exact rfl | assumption | exact (by omega : _ < _))) rfl rfl (cm_Col_conjugateOf l z σ hz hL a b ha hb) cs_Col_70 (by decide) rfl hl.1 rfl (Nat.le_of_ble_eq_true rfl) (by decide) d_Col_commutatorOf_9 (fun r σ' H locs V hr => ?_)
  obtain ⟨hσ, rfl⟩ := hr
  rw [hσ] at V
  clear hσ
  have hB := V.1.2.2
  refine hw_calli X V (hz (1, 0) (by first | exact rfl | assumption | exact (by omega : _ < _))) rfl rfl (cm_Col_multiply l z σ hz hL _ _ (g.ivl ha) (g.cjl ha hb)) cs_Col_66 (by decide) rfl hl.1 rfl (Nat.le_of_ble_eq_true rfl) (by decide) d_Col_commutatorOf_12 (fun r σ' H locs V hr => ?_)
  obtain ⟨hσ, rfl⟩ := hr
  rw [hσ] at V
  clear hσ
  have hB := V.1.2.2
  exact hret _ _ _ _ _ _ d_Col_commutatorOf_15 V ⟨rfl, rfl⟩
set_option maxHeartbeats 4000000 in
set_option maxRecDepth 20000 in
theorem cm_Col_orderOf (l : Launch) (z : zz_Z) (σ : hw_M) (hz : ∀ k, zz_k (zz_n z) k → zz_O z k) (hL : lo_ok z σ 0) (a : Nat) (ha : a < zz_N z) : Met l y_Col_orderOf (hw_c y_Col_orderOf b_Col_orderOf 4 (some .int)) (hw_r 2) (va_Pc [.ref (zz_A z (1, 0)), .int (nI a)] (zz_B z σ)) (va_Qi (fun r σ' => σ' = σ ∧ ∃ k, r = nI k ∧ gp_od (gr_p z σ) a k) (zz_B z) (zz_F z)) 0 0 (zz_F z) := by
  refine hw_meti (post := (fun r σ' => σ' = σ ∧ ∃ k, r = nI k ∧ gp_od (gr_p z σ) a k)) (by decide) (Nat.le_of_ble_eq_true rfl) ?_
  intro p e s m args below meth c ls Q X hret V hl
  have hl : lv_has ls 4 [(0, .ref (zz_A z (1, 0))), (1, .int (nI a))] := hl
  have hB := V.1.2.2
  obtain ⟨⟨hn7, hN, hn, hNe, hw, hsz, hln⟩, hk, ht⟩ := id hL
  have g := lo_gp hL
  refine nw_iconst X 1 d_Col_orderOf_0 (by decide) ?_
  refine nw_istore_n X (lv' := [(2, _), (0, _), (1, _)]) d_Col_orderOf_1 rfl hl (by decide) rfl (fun ls hl => ?_)
  refine nw_iload_n X d_Col_orderOf_2 rfl (lv_at hl 2 rfl) ?_
  refine nw_istore_n X (lv' := [(3, _), (2, _), (0, _), (1, _)]) d_Col_orderOf_3 rfl hl (by decide) rfl (fun ls hl => ?_)
  have LP4 : ∀ (d k word : Nat) (H : Heap) (locs : List Loc) (ls : Array Slot), zz_N z - k < d → (1 ≤ k) → (k ≤ zz_N z) → (word = gp_pw (gr_p z σ) a k) → (∀ j, 1 ≤ j → j < k → gp_pw (gr_p z σ) a j ≠ 0) → zz_V z σ s.heap H locs →  lv_has ls 4 [(0, .ref (zz_A z (1, 0))), (1, .int (nI a)), (2, .int (nI k)), (3, .int (nI word))] →  W p l e (hw_r 2) s m args below meth c H locs 0 0 Q (F0 m 4 ls []) := by
    intro d
    induction d with
    | zero => intro k word H locs ls hd; exact absurd hd (Nat.not_lt_zero _)
    | succ d IH4 =>
      intro k word H locs ls hd hk1 hk2 hwd hno V hl
      have hB := V.1.2.2
      have hwl : word < zz_N z := by rw [hwd]; exact g.pwl ha k
      refine nw_iload_n X d_Col_orderOf_4 rfl (lv_at hl 3 rfl) ?_
      refine nw_if_eq X (tgt := 29) d_Col_orderOf_5 (by decide) (by omega) (fun hc => ?_) (fun hc => ?_)
      · skip
        refine nw_iload_n X d_Col_orderOf_29 rfl (lv_at hl 2 rfl) ?_
        exact hret _ _ _ _ _ _ d_Col_orderOf_30 V ⟨rfl, k, rfl, hk1, by rw [← hwd]; exact hc, hno⟩
      · skip
        refine nw_iload_n X d_Col_orderOf_8 rfl (lv_at hl 2 rfl) ?_
        refine nw_aload_n X d_Col_orderOf_9 rfl (lv_at hl 0 rfl) ?_
        refine gf_Col_35 X V (hz (1, 0) (by first | exact rfl | assumption | exact (by omega : _ < _))) d_Col_orderOf_10 ?_
        rw [hNe]
        refine nw_icmp_ge X (tgt := 29) d_Col_orderOf_13 (by decide) (by first | assumption | omega) (by first | assumption | omega) (fun hc2 => ?_) (fun hc2 => ?_)
        · skip
          exfalso
          obtain ⟨j, j1, j2, j3⟩ := g.per ha
          by_cases e : j < k
          · exact hno j j1 e j3
          · have e2 : j = k := by omega
            rw [e2, ← hwd] at j3
            exact hc j3
        · skip
          refine nw_aload_n X d_Col_orderOf_16 rfl (lv_at hl 0 rfl) ?_
          refine nw_iload_n X d_Col_orderOf_17 rfl (lv_at hl 3 rfl) ?_
          refine nw_iload_n X d_Col_orderOf_18 rfl (lv_at hl 1 rfl) ?_
          refine hw_calli X V (hz (1, 0) (by first | exact rfl | assumption | exact (by omega : _ < _))) rfl rfl (cm_Col_multiply l z σ hz hL _ _ hwl ha) cs_Col_66 (by decide) rfl hl.1 rfl (Nat.le_of_ble_eq_true rfl) (by decide) d_Col_orderOf_19 (fun r σ' H locs V hr => ?_)
          obtain ⟨hσ, rfl⟩ := hr
          rw [hσ] at V
          clear hσ
          have hB := V.1.2.2
          refine nw_istore_n X (lv' := [(3, _), (0, _), (1, _), (2, _)]) d_Col_orderOf_22 rfl hl (by decide) rfl (fun ls hl => ?_)
          refine nw_iinc X (lv' := [(2, _), (3, _), (0, _), (1, _)]) (k := 3) 1 d_Col_orderOf_23 hl rfl (by decide) (by decide) rfl (fun ls hl => ?_)
          refine nw_goto X (tgt := 4) d_Col_orderOf_26 (by decide) ?_
          exact IH4 (k + 1) _ _ _ _ (by omega) (by omega) hc2 (by rw [hwd]; rfl) (fun j h1 h2 => by by_cases e : j = k; rw [e, ← hwd]; exact hc; exact hno j h1 (by omega)) V (lv_sub hl [2, 3, 0, 1] rfl)
  exact LP4 (zz_N z + 1) 1 a _ _ _ (by omega) (Nat.le_refl _) (by omega) (gp_pw1 g ha).symm (fun j h1 h2 => by omega) V (lv_sub hl [2, 3, 1, 0] rfl)
set_option maxHeartbeats 4000000 in
set_option maxRecDepth 20000 in
theorem cm_Col_multiple (l : Launch) (z : zz_Z) (σ : hw_M) (hz : ∀ k, zz_k (zz_n z) k → zz_O z k) (hL : lo_ok z σ 0) (a k : Nat) (ha : a < zz_N z) (hk9 : k < 2147483648) : Met l y_Col_multiple (hw_c y_Col_multiple b_Col_multiple 5 (some .int)) (hw_r 2) (va_Pc [.ref (zz_A z (1, 0)), .int (nI a), .int (nI k)] (zz_B z σ)) (va_Qi (fun r σ' => σ' = σ ∧ r = nI (gp_pw (gr_p z σ) a k)) (zz_B z) (zz_F z)) 0 0 (zz_F z) := by
  refine hw_meti (post := (fun r σ' => σ' = σ ∧ r = nI (gp_pw (gr_p z σ) a k))) (by decide) (Nat.le_of_ble_eq_true rfl) ?_
  intro p e s m args below meth c ls Q X hret V hl
  have hl : lv_has ls 5 [(0, .ref (zz_A z (1, 0))), (1, .int (nI a)), (2, .int (nI k))] := hl
  have hB := V.1.2.2
  obtain ⟨⟨hn7, hN, hn, hNe, hw, hsz, hln⟩, hk, ht⟩ := id hL
  have g := lo_gp hL
  refine nw_iconst X 0 d_Col_multiple_0 (by decide) ?_
  refine nw_istore_n X (lv' := [(3, _), (0, _), (1, _), (2, _)]) d_Col_multiple_1 rfl hl (by decide) rfl (fun ls hl => ?_)
  refine nw_iconst X 0 d_Col_multiple_2 (by decide) ?_
  refine nw_istore X (lv' := [(4, _), (3, _), (0, _), (1, _), (2, _)]) d_Col_multiple_3 hl (by decide) rfl (fun ls hl => ?_)
  have LP5 : ∀ (d n word : Nat) (H : Heap) (locs : List Loc) (ls : Array Slot), k - n < d → (n ≤ k) → (word = gp_pw (gr_p z σ) a n) → zz_V z σ s.heap H locs →  lv_has ls 5 [(0, .ref (zz_A z (1, 0))), (1, .int (nI a)), (2, .int (nI k)), (3, .int (nI word)), (4, .int (nI n))] →  W p l e (hw_r 2) s m args below meth c H locs 0 0 Q (F0 m 5 ls []) := by
    intro d
    induction d with
    | zero => intro n word H locs ls hd; exact absurd hd (Nat.not_lt_zero _)
    | succ d IH5 =>
      intro n word H locs ls hd hn1 hwd V hl
      have hB := V.1.2.2
      have hwl : word < zz_N z := by rw [hwd]; exact g.pwl ha n
      refine nw_iload X d_Col_multiple_5 (lv_at hl 4 rfl) ?_
      refine nw_iload_n X d_Col_multiple_7 rfl (lv_at hl 2 rfl) ?_
      refine nw_icmp_ge X (tgt := 24) d_Col_multiple_8 (by decide) (by first | assumption | omega) (by first | assumption | omega) (fun hc => ?_) (fun hc => ?_)
      · skip
        refine nw_iload_n X d_Col_multiple_24 rfl (lv_at hl 3 rfl) ?_
        exact hret _ _ _ _ _ _ d_Col_multiple_25 V ⟨rfl, by rw [hwd, show n = k by omega]⟩
      · skip
        refine nw_aload_n X d_Col_multiple_11 rfl (lv_at hl 0 rfl) ?_
        refine nw_iload_n X d_Col_multiple_12 rfl (lv_at hl 3 rfl) ?_
        refine nw_iload_n X d_Col_multiple_13 rfl (lv_at hl 1 rfl) ?_
        refine hw_calli X V (hz (1, 0) (by first | exact rfl | assumption | exact (by omega : _ < _))) rfl rfl (cm_Col_multiply l z σ hz hL _ _ hwl ha) cs_Col_66 (by decide) rfl hl.1 rfl (Nat.le_of_ble_eq_true rfl) (by decide) d_Col_multiple_14 (fun r σ' H locs V hr => ?_)
        obtain ⟨hσ, rfl⟩ := hr
        rw [hσ] at V
        clear hσ
        have hB := V.1.2.2
        refine nw_istore_n X (lv' := [(3, _), (0, _), (1, _), (2, _), (4, _)]) d_Col_multiple_17 rfl hl (by decide) rfl (fun ls hl => ?_)
        refine nw_iinc X (lv' := [(4, _), (3, _), (0, _), (1, _), (2, _)]) (k := 4) 1 d_Col_multiple_18 hl rfl (by decide) (by decide) rfl (fun ls hl => ?_)
        refine nw_goto X (tgt := 5) d_Col_multiple_21 (by decide) ?_
        exact IH5 (n + 1) _ _ _ _ (by omega) hc (by rw [hwd]; rfl) V (lv_sub hl [2, 3, 4, 1, 0] rfl)
  exact LP5 (k + 1) 0 0 _ _ _ (by omega) (Nat.zero_le _) rfl V (lv_sub hl [2, 3, 4, 1, 0] rfl)
set_option maxHeartbeats 4000000 in
set_option maxRecDepth 20000 in
theorem cm_Col_isCentral (l : Launch) (z : zz_Z) (σ : hw_M) (hz : ∀ k, zz_k (zz_n z) k → zz_O z k) (hL : lo_ok z σ 0) (a : Nat) (ha : a < zz_N z) : Met l y_Col_isCentral (hw_c y_Col_isCentral b_Col_isCentral 3 (some .boolean)) (hw_r 2) (va_Pc [.ref (zz_A z (1, 0)), .int (nI a)] (zz_B z σ)) (va_Qi (fun r σ' => ∃ b, b < 2 ∧ r = nI b ∧ (fun b σ' => σ' = σ ∧ (b = 1 ↔ ∀ i, i < zz_n z → gr_p z σ a (σ (3, 0) i) = gr_p z σ (σ (3, 0) i) a)) b σ') (zz_B z) (zz_F z)) 0 0 (zz_F z) := by
  refine hw_metz (post := (fun b σ' => σ' = σ ∧ (b = 1 ↔ ∀ i, i < zz_n z → gr_p z σ a (σ (3, 0) i) = gr_p z σ (σ (3, 0) i) a))) (by decide) (Nat.le_of_ble_eq_true rfl) ?_
  intro p e s m args below meth c ls Q X hret V hl
  have hl : lv_has ls 3 [(0, .ref (zz_A z (1, 0))), (1, .int (nI a))] := hl
  have hB := V.1.2.2
  obtain ⟨⟨hn7, hN, hn, hNe, hw, hsz, hln⟩, hk, ht⟩ := id hL
  have g := lo_gp hL
  refine nw_iconst X 0 d_Col_isCentral_0 (by decide) ?_
  refine nw_istore_n X (lv' := [(2, _), (0, _), (1, _)]) d_Col_isCentral_1 rfl hl (by decide) rfl (fun ls hl => ?_)
  have LP2 : ∀ (d i : Nat) (H : Heap) (locs : List Loc) (ls : Array Slot), zz_n z - i < d → (i ≤ zz_n z) → (∀ k, k < i → gr_p z σ a (σ (3, 0) k) = gr_p z σ (σ (3, 0) k) a) → zz_V z σ s.heap H locs →  lv_has ls 3 [(0, .ref (zz_A z (1, 0))), (1, .int (nI a)), (2, .int (nI i))] →  W p l e (hw_r 2) s m args below meth c H locs 0 0 Q (F0 m 2 ls []) := by
    intro d
    induction d with
    | zero => intro i H locs ls hd; exact absurd hd (Nat.not_lt_zero _)
    | succ d IH2 =>
      intro i H locs ls hd hin hall V hl
      have hB := V.1.2.2
      refine nw_iload_n X d_Col_isCentral_2 rfl (lv_at hl 2 rfl) ?_
      refine nw_aload_n X d_Col_isCentral_3 rfl (lv_at hl 0 rfl) ?_
      refine gf_Col_7 X V (hz (1, 0) (by first | exact rfl | assumption | exact (by omega : _ < _))) d_Col_isCentral_4 ?_
      rw [hn]
      refine nw_icmp_ge X (tgt := 43) d_Col_isCentral_7 (by decide) (by first | assumption | omega) (by first | assumption | omega) (fun hc => ?_) (fun hc => ?_)
      · skip
        refine nw_iconst X 1 d_Col_isCentral_43 (by decide) ?_
        exact hret 1 _ _ _ _ _ d_Col_isCentral_44 V (by decide) ⟨rfl, fun _ k hk => hall k (by omega), fun _ => rfl⟩
      · skip
        have hi := hc
        have hwi : σ (3, 0) i < zz_N z := by rw [hsz]; exact hw.ltN hi
        refine nw_aload_n X d_Col_isCentral_10 rfl (lv_at hl 0 rfl) ?_
        refine nw_iload_n X d_Col_isCentral_11 rfl (lv_at hl 1 rfl) ?_
        refine nw_aload_n X d_Col_isCentral_12 rfl (lv_at hl 0 rfl) ?_
        refine gf_Col_17 X V (hz (1, 0) (by first | exact rfl | assumption | exact (by omega : _ < _))) d_Col_isCentral_13 ?_
        refine nw_iload_n X d_Col_isCentral_16 rfl (lv_at hl 2 rfl) ?_
        refine hw_iald X V (hz (3, 0) (by first | exact rfl | assumption | exact (by omega : _ < _))) 0 rfl rfl hi (by omega) d_Col_isCentral_17 ?_
        refine hw_calli X V (hz (1, 0) (by first | exact rfl | assumption | exact (by omega : _ < _))) rfl rfl (cm_Col_multiply l z σ hz hL _ _ ha hwi) cs_Col_66 (by decide) rfl hl.1 rfl (Nat.le_of_ble_eq_true rfl) (by decide) d_Col_isCentral_18 (fun r σ' H locs V hr => ?_)
        obtain ⟨hσ, rfl⟩ := hr
        rw [hσ] at V
        clear hσ
        have hB := V.1.2.2
        refine nw_aload_n X d_Col_isCentral_21 rfl (lv_at hl 0 rfl) ?_
        refine nw_aload_n X d_Col_isCentral_22 rfl (lv_at hl 0 rfl) ?_
        refine gf_Col_17 X V (hz (1, 0) (by first | exact rfl | assumption | exact (by omega : _ < _))) d_Col_isCentral_23 ?_
        refine nw_iload_n X d_Col_isCentral_26 rfl (lv_at hl 2 rfl) ?_
        refine hw_iald X V (hz (3, 0) (by first | exact rfl | assumption | exact (by omega : _ < _))) 0 rfl rfl hi (by omega) d_Col_isCentral_27 ?_
        refine nw_iload_n X d_Col_isCentral_28 rfl (lv_at hl 1 rfl) ?_
        refine hw_calli X V (hz (1, 0) (by first | exact rfl | assumption | exact (by omega : _ < _))) rfl rfl (cm_Col_multiply l z σ hz hL _ _ hwi ha) cs_Col_66 (by decide) rfl hl.1 rfl (Nat.le_of_ble_eq_true rfl) (by decide) d_Col_isCentral_29 (fun r σ' H locs V hr => ?_)
        obtain ⟨hσ, rfl⟩ := hr
        rw [hσ] at V
        clear hσ
        have hB := V.1.2.2
        refine nw_icmp_eq X (tgt := 37) d_Col_isCentral_32 (by decide) (by have := g.lt ha hwi; omega) (by have := g.lt hwi ha; omega) (fun hc2 => ?_) (fun hc2 => ?_)
        · skip
          refine nw_iinc X (lv' := [(2, _), (0, _), (1, _)]) (k := 2) 1 d_Col_isCentral_37 hl rfl (by decide) (by decide) rfl (fun ls hl => ?_)
          refine nw_goto X (tgt := 2) d_Col_isCentral_40 (by decide) ?_
          exact IH2 (i + 1) _ _ _ (by omega) hi (fun k hk => by by_cases e : k = i; rw [e]; exact hc2; exact hall k (by omega)) V (lv_sub hl [1, 2, 0] rfl)
        · skip
          refine nw_iconst X 0 d_Col_isCentral_35 (by decide) ?_
          exact hret 0 _ _ _ _ _ d_Col_isCentral_36 V (by decide) ⟨rfl, fun q => absurd q (by decide), fun q => absurd (q i hi) hc2⟩
  exact LP2 (zz_n z + 1) 0 _ _ _ (by omega) (Nat.zero_le _) (fun k hk => absurd hk (Nat.not_lt_zero _)) V (lv_sub hl [1, 2, 0] rfl)
