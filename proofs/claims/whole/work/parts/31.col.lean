/-! The Collector: contracts. By program (wip/whole/gen/col.py). -/
set_option maxHeartbeats 4000000 in
set_option maxRecDepth 20000 in
theorem cm_Col_letterCount (l : Launch) (z : zz_Z) (σ : hw_M) (hz : ∀ k, zz_k (zz_n z) k → zz_O z k) (hS : st_ok z σ) : Met l y_Col_letterCount (hw_c y_Col_letterCount b_Col_letterCount 1 (some .int)) (hw_r 0) (va_Pc [.ref (zz_A z (1, 0))] (zz_B z σ)) (va_Qi (fun r σ' => σ' = σ ∧ r = nI (zz_n z)) (zz_B z) (zz_F z)) 0 0 (zz_F z) := by
  refine hw_meti (post := (fun r σ' => σ' = σ ∧ r = nI (zz_n z))) (by decide) (Nat.le_of_ble_eq_true rfl) ?_
  intro p e s m args below meth c ls Q X hret V hl
  have hl : lv_has ls 1 [(0, .ref (zz_A z (1, 0)))] := hl
  have hB := V.1.2.2
  obtain ⟨hn7, hN, hn, hNe, hw, hsz, hln⟩ := hS
  refine nw_aload_n X d_Col_letterCount_0 rfl (lv_at hl 0 rfl) ?_
  refine gf_Col_7 X V (hz (1, 0) (by first | exact rfl | assumption | exact (by omega : _ < _))) d_Col_letterCount_1 ?_
  rw [hn]
  exact hret _ _ _ _ _ _ d_Col_letterCount_4 V ⟨rfl, rfl⟩
set_option maxHeartbeats 4000000 in
set_option maxRecDepth 20000 in
theorem cm_Col_elementCount (l : Launch) (z : zz_Z) (σ : hw_M) (h1 : zz_O z (1, 0)) : Met l y_Col_elementCount (hw_c y_Col_elementCount b_Col_elementCount 1 (some .int)) (hw_r 0) (va_Pc [.ref (zz_A z (1, 0))] (zz_B z σ)) (va_Qi (fun r σ' => σ' = σ ∧ r = nI (σ (1, 0) 1)) (zz_B z) (zz_F z)) 0 0 (zz_F z) := by
  refine hw_meti (post := (fun r σ' => σ' = σ ∧ r = nI (σ (1, 0) 1))) (by decide) (Nat.le_of_ble_eq_true rfl) ?_
  intro p e s m args below meth c ls Q X hret V hl
  have hl : lv_has ls 1 [(0, .ref (zz_A z (1, 0)))] := hl
  have hB := V.1.2.2
  refine nw_aload_n X d_Col_elementCount_0 rfl (lv_at hl 0 rfl) ?_
  refine gf_Col_35 X V h1 d_Col_elementCount_1 ?_
  exact hret _ _ _ _ _ _ d_Col_elementCount_4 V ⟨rfl, rfl⟩
set_option maxHeartbeats 4000000 in
set_option maxRecDepth 20000 in
theorem cm_Col_isLetter (l : Launch) (z : zz_Z) (σ : hw_M) (hz : ∀ k, zz_k (zz_n z) k → zz_O z k) (hS : st_ok z σ) (x : Int32) : Met l y_Col_isLetter (hw_c y_Col_isLetter b_Col_isLetter 2 (some .boolean)) (hw_r 0) (va_Pc [.ref (zz_A z (1, 0)), .int x] (zz_B z σ)) (va_Qi (fun r σ' => ∃ b, b < 2 ∧ r = nI b ∧ (fun b σ' => σ' = σ ∧ (b = 1 ↔ ∃ j, j < zz_n z ∧ x = nI j)) b σ') (zz_B z) (zz_F z)) 0 0 (zz_F z) := by
  refine hw_metz (post := (fun b σ' => σ' = σ ∧ (b = 1 ↔ ∃ j, j < zz_n z ∧ x = nI j))) (by decide) (Nat.le_of_ble_eq_true rfl) ?_
  intro p e s m args below meth c ls Q X hret V hl
  have hl : lv_has ls 2 [(0, .ref (zz_A z (1, 0))), (1, .int x)] := hl
  have hB := V.1.2.2
  obtain ⟨hn7, hN, hn, hNe, hw, hsz, hln⟩ := hS
  refine nw_iload_n X d_Col_isLetter_0 rfl (lv_at hl 1 rfl) ?_
  refine lv_if_lt (tgt := 16) X.1.1 X.1.2.1 d_Col_isLetter_1 (by decide) (fun hc => ?_) (fun hc => ?_)
  · skip
    have hno : ¬ ∃ j, j < zz_n z ∧ x = nI j := fun ⟨j, hj, e⟩ => by rw [e] at hc; exact nI_pos (by omega) hc
    refine nw_iconst X 0 d_Col_isLetter_16 (by decide) ?_
    exact hret 0 _ _ _ _ _ d_Col_isLetter_17 V (by decide) ⟨rfl, fun q => absurd q (by decide), fun q => absurd q hno⟩
  · skip
    have h0 := hc
    refine nw_iload_n X d_Col_isLetter_4 rfl (lv_at hl 1 rfl) ?_
    refine nw_aload_n X d_Col_isLetter_5 rfl (lv_at hl 0 rfl) ?_
    refine gf_Col_7 X V (hz (1, 0) (by first | exact rfl | assumption | exact (by omega : _ < _))) d_Col_isLetter_6 ?_
    rw [hn]
    refine lv_icmp_ge (tgt := 16) X.1.1 X.1.2.1 d_Col_isLetter_9 (by decide) (fun hc => ?_) (fun hc => ?_)
    · skip
      have hno : ¬ ∃ j, j < zz_n z ∧ x = nI j := fun ⟨j, hj, e⟩ => by rw [e] at hc; exact nI_ge hj (by omega) hc
      refine nw_iconst X 0 d_Col_isLetter_16 (by decide) ?_
      exact hret 0 _ _ _ _ _ d_Col_isLetter_17 V (by decide) ⟨rfl, fun q => absurd q (by decide), fun q => absurd q hno⟩
    · skip
      have hyes : ∃ j, j < zz_n z ∧ x = nI j := by
        rcases pk_ix x (n := zz_n z) (by omega) with h | h | h
        · exact absurd h h0
        · exact absurd h hc
        · exact h
      refine nw_iconst X 1 d_Col_isLetter_12 (by decide) ?_
      refine nw_goto X (tgt := 17) d_Col_isLetter_13 (by decide) ?_
      exact hret 1 _ _ _ _ _ d_Col_isLetter_17 V (by decide) ⟨rfl, fun _ => hyes, fun _ => rfl⟩
set_option maxHeartbeats 4000000 in
set_option maxRecDepth 20000 in
theorem cm_Col_letter (l : Launch) (z : zz_Z) (σ : hw_M) (hz : ∀ k, zz_k (zz_n z) k → zz_O z k) (hS : st_ok z σ) (j : Nat) (hj : j < zz_n z) : Met l y_Col_letter (hw_c y_Col_letter b_Col_letter 2 (some .int)) (hw_r 0) (va_Pc [.ref (zz_A z (1, 0)), .int (nI j)] (zz_B z σ)) (va_Qi (fun r σ' => σ' = σ ∧ r = nI (σ (3, 0) j)) (zz_B z) (zz_F z)) 0 0 (zz_F z) := by
  refine hw_meti (post := (fun r σ' => σ' = σ ∧ r = nI (σ (3, 0) j))) (by decide) (Nat.le_of_ble_eq_true rfl) ?_
  intro p e s m args below meth c ls Q X hret V hl
  have hl : lv_has ls 2 [(0, .ref (zz_A z (1, 0))), (1, .int (nI j))] := hl
  have hB := V.1.2.2
  obtain ⟨hn7, hN, hn, hNe, hw, hsz, hln⟩ := hS
  refine nw_aload_n X d_Col_letter_0 rfl (lv_at hl 0 rfl) ?_
  refine gf_Col_17 X V (hz (1, 0) (by first | exact rfl | assumption | exact (by omega : _ < _))) d_Col_letter_1 ?_
  refine nw_iload_n X d_Col_letter_4 rfl (lv_at hl 1 rfl) ?_
  refine hw_iald X V (hz (3, 0) (by first | exact rfl | assumption | exact (by omega : _ < _))) 0 rfl rfl hj (by omega) d_Col_letter_5 ?_
  exact hret _ _ _ _ _ _ d_Col_letter_6 V ⟨rfl, rfl⟩
set_option maxHeartbeats 4000000 in
set_option maxRecDepth 20000 in
theorem cm_Col_isWordBehind (l : Launch) (z : zz_Z) (σ : hw_M) (hz : ∀ k, zz_k (zz_n z) k → zz_O z k) (hS : st_ok z σ) (x y : Int32) : Met l y_Col_isWordBehind (hw_c y_Col_isWordBehind b_Col_isWordBehind 3 (some .boolean)) (hw_r 1) (va_Pc [.ref (zz_A z (1, 0)), .int x, .int y] (zz_B z σ)) (va_Qi (fun r σ' => ∃ b, b < 2 ∧ r = nI b ∧ (fun b σ' => σ' = σ ∧ (b = 1 ↔ ∃ j v, j < zz_n z ∧ x = nI j ∧ v < σ (3, 0) j ∧ y = nI v)) b σ') (zz_B z) (zz_F z)) 0 0 (zz_F z) := by
  refine hw_metz (post := (fun b σ' => σ' = σ ∧ (b = 1 ↔ ∃ j v, j < zz_n z ∧ x = nI j ∧ v < σ (3, 0) j ∧ y = nI v))) (by decide) (Nat.le_of_ble_eq_true rfl) ?_
  intro p e s m args below meth c ls Q X hret V hl
  have hl : lv_has ls 3 [(0, .ref (zz_A z (1, 0))), (1, .int x), (2, .int y)] := hl
  have hB := V.1.2.2
  have hS0 := hS
  obtain ⟨hn7, hN, hn, hNe, hw, hsz, hln⟩ := hS0
  refine nw_aload_n X d_Col_isWordBehind_0 rfl (lv_at hl 0 rfl) ?_
  refine nw_iload_n X d_Col_isWordBehind_1 rfl (lv_at hl 1 rfl) ?_
  refine hw_calli X V (hz (1, 0) (by first | exact rfl | assumption | exact (by omega : _ < _))) rfl rfl (cm_Col_isLetter l z σ hz hS x) cs_Col_38 (by decide) rfl hl.1 rfl (Nat.le_of_ble_eq_true rfl) (by decide) d_Col_isWordBehind_2 (fun r σ' H locs V hr => ?_)
  obtain ⟨b, hb2, rfl, hσ, hbp⟩ := hr
  rw [hσ] at V
  clear hσ
  have hB := V.1.2.2
  refine nw_if_eq X (tgt := 26) d_Col_isWordBehind_5 (by decide) (by omega) (fun hc => ?_) (fun hc => ?_)
  · skip
    have hno : ¬ ∃ j v, j < zz_n z ∧ x = nI j ∧ v < σ (3, 0) j ∧ y = nI v := fun ⟨j, v, h1, h2, _⟩ => by have := hbp.mpr ⟨j, h1, h2⟩; omega
    refine nw_iconst X 0 d_Col_isWordBehind_26 (by decide) ?_
    exact hret 0 _ _ _ _ _ d_Col_isWordBehind_27 V (by decide) ⟨rfl, fun q => absurd q (by decide), fun q => absurd q hno⟩
  · skip
    obtain ⟨j, hj, rfl⟩ := hbp.mp (show b = 1 by omega)
    have hu : ∀ i, i < zz_n z → nI j = nI i → j = i := fun i hi q => (nI_eq (by omega) (by omega)).mp q
    refine nw_iload_n X d_Col_isWordBehind_8 rfl (lv_at hl 2 rfl) ?_
    refine lv_if_lt (tgt := 26) X.1.1 X.1.2.1 d_Col_isWordBehind_9 (by decide) (fun hc => ?_) (fun hc => ?_)
    · skip
      have hno : ¬ ∃ i v, i < zz_n z ∧ nI j = nI i ∧ v < σ (3, 0) i ∧ y = nI v := fun ⟨i, v, h1, h2, h3, h4⟩ => by
        rw [h4] at hc
        have := hB (3, 0) i
        exact nI_pos (by omega) hc
      refine nw_iconst X 0 d_Col_isWordBehind_26 (by decide) ?_
      exact hret 0 _ _ _ _ _ d_Col_isWordBehind_27 V (by decide) ⟨rfl, fun q => absurd q (by decide), fun q => absurd q hno⟩
    · skip
      have h0 := hc
      refine nw_iload_n X d_Col_isWordBehind_12 rfl (lv_at hl 2 rfl) ?_
      refine nw_aload_n X d_Col_isWordBehind_13 rfl (lv_at hl 0 rfl) ?_
      refine gf_Col_17 X V (hz (1, 0) (by first | exact rfl | assumption | exact (by omega : _ < _))) d_Col_isWordBehind_14 ?_
      refine nw_iload_n X d_Col_isWordBehind_17 rfl (lv_at hl 1 rfl) ?_
      refine hw_iald X V (hz (3, 0) (by first | exact rfl | assumption | exact (by omega : _ < _))) 0 rfl rfl hj (by omega) d_Col_isWordBehind_18 ?_
      refine lv_icmp_ge (tgt := 26) X.1.1 X.1.2.1 d_Col_isWordBehind_19 (by decide) (fun hc => ?_) (fun hc => ?_)
      · skip
        have hno : ¬ ∃ i v, i < zz_n z ∧ nI j = nI i ∧ v < σ (3, 0) i ∧ y = nI v := fun ⟨i, v, h1, h2, h3, h4⟩ => by
          have e := hu i h1 h2
          subst e
          rw [h4] at hc
          exact nI_ge h3 (hB _ _) hc
        refine nw_iconst X 0 d_Col_isWordBehind_26 (by decide) ?_
        exact hret 0 _ _ _ _ _ d_Col_isWordBehind_27 V (by decide) ⟨rfl, fun q => absurd q (by decide), fun q => absurd q hno⟩
      · skip
        have hyes : ∃ i v, i < zz_n z ∧ nI j = nI i ∧ v < σ (3, 0) i ∧ y = nI v := by
          rcases pk_ix y (n := σ (3, 0) j) (hB _ _) with h | h | h
          · exact absurd h h0
          · exact absurd h hc
          · obtain ⟨v, hv, e⟩ := h
            exact ⟨j, v, hj, rfl, hv, e⟩
        refine nw_iconst X 1 d_Col_isWordBehind_22 (by decide) ?_
        refine nw_goto X (tgt := 27) d_Col_isWordBehind_23 (by decide) ?_
        exact hret 1 _ _ _ _ _ d_Col_isWordBehind_27 V (by decide) ⟨rfl, fun _ => hyes, fun _ => rfl⟩
set_option maxHeartbeats 4000000 in
set_option maxRecDepth 20000 in
theorem cm_Col_setPower (l : Launch) (z : zz_Z) (σ : hw_M) (hz : ∀ k, zz_k (zz_n z) k → zz_O z k) (hS : st_ok z σ) (j v : Nat) (hj : j < zz_n z) (hv : v < 2147483648) : Met l y_Col_setPower (hw_c y_Col_setPower b_Col_setPower 3 none) (hw_r 0) (va_Pc [.ref (zz_A z (1, 0)), .int (nI j), .int (nI v)] (zz_B z σ)) (va_Qv (fun σ' => σ' = hw_up σ (4, 0) j v) (zz_B z) (zz_F z)) 0 0 (zz_F z) := by
  refine hw_metv (post := (fun σ' => σ' = hw_up σ (4, 0) j v)) (by decide) (Nat.le_of_ble_eq_true rfl) ?_
  intro p e s m args below meth c ls Q X hret V hl
  have hl : lv_has ls 3 [(0, .ref (zz_A z (1, 0))), (1, .int (nI j)), (2, .int (nI v))] := hl
  have hB := V.1.2.2
  obtain ⟨hn7, hN, hn, hNe, hw, hsz, hln⟩ := hS
  refine nw_aload_n X d_Col_setPower_0 rfl (lv_at hl 0 rfl) ?_
  refine gf_Col_20 X V (hz (1, 0) (by first | exact rfl | assumption | exact (by omega : _ < _))) d_Col_setPower_1 ?_
  refine nw_iload_n X d_Col_setPower_4 rfl (lv_at hl 1 rfl) ?_
  refine nw_iload_n X d_Col_setPower_5 rfl (lv_at hl 2 rfl) ?_
  refine hw_iast X V (hz (4, 0) (by first | exact rfl | assumption | exact (by omega : _ < _))) 0 (fun _ => rfl) rfl hj (by omega) hv d_Col_setPower_6 (fun H locs V => ?_)
  exact hret _ _ _ _ _ d_Col_setPower_7 V rfl
set_option maxHeartbeats 4000000 in
set_option maxRecDepth 20000 in
theorem cm_Col_setConjugate (l : Launch) (z : zz_Z) (σ : hw_M) (hz : ∀ k, zz_k (zz_n z) k → zz_O z k) (hS : st_ok z σ) (i j v : Nat) (hi : i < zz_n z) (hj : j < zz_n z) (hv : v < 2147483648) : Met l y_Col_setConjugate (hw_c y_Col_setConjugate b_Col_setConjugate 4 none) (hw_r 0) (va_Pc [.ref (zz_A z (1, 0)), .int (nI i), .int (nI j), .int (nI v)] (zz_B z σ)) (va_Qv (fun σ' => σ' = hw_up σ (6, i) j v) (zz_B z) (zz_F z)) 0 0 (zz_F z) := by
  refine hw_metv (post := (fun σ' => σ' = hw_up σ (6, i) j v)) (by decide) (Nat.le_of_ble_eq_true rfl) ?_
  intro p e s m args below meth c ls Q X hret V hl
  have hl : lv_has ls 4 [(0, .ref (zz_A z (1, 0))), (1, .int (nI i)), (2, .int (nI j)), (3, .int (nI v))] := hl
  have hB := V.1.2.2
  obtain ⟨hn7, hN, hn, hNe, hw, hsz, hln⟩ := hS
  refine nw_aload_n X d_Col_setConjugate_0 rfl (lv_at hl 0 rfl) ?_
  refine gf_Col_25 X V (hz (1, 0) (by first | exact rfl | assumption | exact (by omega : _ < _))) d_Col_setConjugate_1 ?_
  refine nw_iload_n X d_Col_setConjugate_4 rfl (lv_at hl 1 rfl) ?_
  refine hw_aald X V (hz (5, 0) (by first | exact rfl | assumption | exact (by omega : _ < _))) 2 rfl rfl rfl hi (by omega) rfl d_Col_setConjugate_5 ?_
  refine nw_iload_n X d_Col_setConjugate_6 rfl (lv_at hl 2 rfl) ?_
  refine nw_iload_n X d_Col_setConjugate_7 rfl (lv_at hl 3 rfl) ?_
  refine hw_iast X V (hz (6, i) (by first | exact rfl | assumption | exact (by omega : _ < _))) 0 (fun _ => rfl) rfl hj (by omega) hv d_Col_setConjugate_8 (fun H locs V => ?_)
  exact hret _ _ _ _ _ d_Col_setConjugate_9 V rfl
set_option maxHeartbeats 4000000 in
set_option maxRecDepth 20000 in
theorem cm_Col_multiplyFrom (l : Launch) (z : zz_Z) (σ : hw_M) (hz : ∀ k, zz_k (zz_n z) k → zz_O z k) (f a b : Nat) (hf : f ≤ zz_n z) (hL : lo_ok z σ f) (ha : a < mo_z z σ (zz_n z - f)) (hb : b < mo_z z σ (zz_n z - f)) : Met l y_Col_multiplyFrom (hw_c y_Col_multiplyFrom b_Col_multiplyFrom 12 (some .int)) (hw_r 0) (va_Pc [.ref (zz_A z (1, 0)), .int (nI f), .int (nI a), .int (nI b)] (zz_B z σ)) (va_Qi (fun r σ' => σ' = σ ∧ r = nI (mo_p z σ (zz_n z - f) a b)) (zz_B z) (zz_F z)) 0 0 (zz_F z) := by
  refine hw_meti (post := (fun r σ' => σ' = σ ∧ r = nI (mo_p z σ (zz_n z - f) a b))) (by decide) (Nat.le_of_ble_eq_true rfl) ?_
  intro p e s m args below meth c ls Q X hret V hl
  have hl : lv_has ls 12 [(0, .ref (zz_A z (1, 0))), (1, .int (nI f)), (2, .int (nI a)), (3, .int (nI b))] := hl
  have hB := V.1.2.2
  obtain ⟨⟨hn7, hN, hn, hNe, hw, hsz, hln⟩, hk, ht⟩ := id hL
  refine nw_iload_n X d_Col_multiplyFrom_0 rfl (lv_at hl 2 rfl) ?_
  refine nw_istore X (lv' := [(4, _), (0, _), (1, _), (2, _), (3, _)]) d_Col_multiplyFrom_1 hl (by decide) rfl (fun ls hl => ?_)
  refine nw_iload_n X d_Col_multiplyFrom_3 rfl (lv_at hl 4 rfl) ?_
  refine nw_istore X (lv' := [(5, _), (4, _), (0, _), (1, _), (2, _), (3, _)]) d_Col_multiplyFrom_4 hl (by decide) rfl (fun ls hl => ?_)
  refine nw_iconst X 0 d_Col_multiplyFrom_6 (by decide) ?_
  refine nw_istore X (lv' := [(6, _), (5, _), (4, _), (0, _), (1, _), (2, _), (3, _)]) d_Col_multiplyFrom_7 hl (by decide) rfl (fun ls hl => ?_)
  refine nw_iload_n X d_Col_multiplyFrom_9 rfl (lv_at hl 4 rfl) ?_
  refine nw_istore X (lv' := [(7, _), (6, _), (5, _), (4, _), (0, _), (1, _), (2, _), (3, _)]) d_Col_multiplyFrom_10 hl (by decide) rfl (fun ls hl => ?_)
  have LP12 : ∀ (d i left right prod : Nat) (ls : Array Slot), zz_n z - i < d → (f ≤ i) → (i ≤ zz_n z) → (left < mo_z z σ (zz_n z - i)) → (right < mo_z z σ (zz_n z - i)) → (prod + mo_p z σ (zz_n z - i) left right = mo_p z σ (zz_n z - f) a b) →  lv_has ls 12 [(0, .ref (zz_A z (1, 0))), (4, .int (nI left)), (5, .int (nI right)), (6, .int (nI prod)), (7, .int (nI i))] →  W p l e (hw_r 0) s m args below meth c s.heap [] 0 0 Q (F0 m 12 ls []) := by
    intro d
    induction d with
    | zero => intro i left right prod ls hd; exact absurd hd (Nat.not_lt_zero _)
    | succ d IH12 =>
      intro i left right prod ls hd hfi hin ha1 hb1 hinv hl
      refine nw_iload X d_Col_multiplyFrom_12 (lv_at hl 4 rfl) ?_
      refine nw_aload_n X d_Col_multiplyFrom_14 rfl (lv_at hl 0 rfl) ?_
      refine gf_Col_7 X V (hz (1, 0) (by first | exact rfl | assumption | exact (by omega : _ < _))) d_Col_multiplyFrom_15 ?_
      rw [hn]
      refine nw_icmp_ge X (tgt := 134) d_Col_multiplyFrom_18 (by decide) (by first | assumption | omega) (by first | assumption | omega) (fun hc => ?_) (fun hc => ?_)
      · skip
        have ei : zz_n z - i = 0 := by omega
        rw [ei] at hinv
        have hinv : prod + 0 = _ := hinv
        rw [Nat.add_zero] at hinv
        refine nw_iload X d_Col_multiplyFrom_134 (lv_at hl 3 rfl) ?_
        exact hret _ _ _ _ _ _ d_Col_multiplyFrom_136 V ⟨rfl, by rw [hinv]⟩
      · skip
        have hi := hc
        have hq := st_lv hL.1 hi
        have hs := tw_step hw hi (hk.le (by omega)) (ht i (by omega) hi) ha1 hb1
        have ez := st_sz hL.1 hi
        have ha2 : left < σ (2, 0) i * σ (3, 0) i := by rw [← ez.1]; exact ha1
        have hb2 : right < σ (2, 0) i * σ (3, 0) i := by rw [← ez.1]; exact hb1
        refine nw_aload_n X d_Col_multiplyFrom_21 rfl (lv_at hl 0 rfl) ?_
        refine gf_Col_17 X V (hz (1, 0) (by first | exact rfl | assumption | exact (by omega : _ < _))) d_Col_multiplyFrom_22 ?_
        refine nw_iload X d_Col_multiplyFrom_25 (lv_at hl 4 rfl) ?_
        refine hw_iald X V (hz (3, 0) (by first | exact rfl | assumption | exact (by omega : _ < _))) 0 rfl rfl hi (by omega) d_Col_multiplyFrom_27 ?_
        refine nw_istore X (lv' := [(8, _), (0, _), (4, _), (5, _), (6, _), (7, _)]) d_Col_multiplyFrom_28 hl (by decide) rfl (fun ls hl => ?_)
        refine nw_iload X d_Col_multiplyFrom_30 (lv_at hl 3 rfl) ?_
        refine nw_iload X d_Col_multiplyFrom_32 (lv_at hl 0 rfl) ?_
        refine nw_irem X (by omega) (by omega) (by omega) d_Col_multiplyFrom_34 ?_
        refine nw_istore X (lv' := [(9, _), (8, _), (0, _), (4, _), (5, _), (6, _), (7, _)]) d_Col_multiplyFrom_35 hl (by decide) rfl (fun ls hl => ?_)
        refine nw_iload X d_Col_multiplyFrom_37 (lv_at hl 4 rfl) ?_
        refine nw_iload X d_Col_multiplyFrom_39 (lv_at hl 0 rfl) ?_
        refine nw_isub X (Nat.mod_le _ _) d_Col_multiplyFrom_41 ?_
        refine nw_iload X d_Col_multiplyFrom_42 (lv_at hl 3 rfl) ?_
        refine nw_iload X d_Col_multiplyFrom_44 (lv_at hl 1 rfl) ?_
        refine nw_irem X (by omega) (by omega) (by omega) d_Col_multiplyFrom_46 ?_
        refine nw_iadd X d_Col_multiplyFrom_47 ?_
        refine nw_istore X (lv' := [(10, _), (9, _), (8, _), (0, _), (4, _), (5, _), (6, _), (7, _)]) d_Col_multiplyFrom_48 hl (by decide) rfl (fun ls hl => ?_)
        refine nw_iload X d_Col_multiplyFrom_50 (lv_at hl 4 rfl) ?_
        refine nw_iload X d_Col_multiplyFrom_52 (lv_at hl 2 rfl) ?_
        refine nw_idiv X (by omega) (by omega) (by omega) d_Col_multiplyFrom_54 ?_
        refine nw_iload X d_Col_multiplyFrom_55 (lv_at hl 5 rfl) ?_
        refine nw_iload X d_Col_multiplyFrom_57 (lv_at hl 2 rfl) ?_
        refine nw_idiv X (by omega) (by omega) (by omega) d_Col_multiplyFrom_59 ?_
        refine nw_iadd X d_Col_multiplyFrom_60 ?_
        refine nw_istore X (lv' := [(11, _), (10, _), (9, _), (8, _), (0, _), (4, _), (5, _), (6, _), (7, _)]) d_Col_multiplyFrom_61 hl (by decide) rfl (fun ls hl => ?_)
        refine nw_iload X d_Col_multiplyFrom_63 (lv_at hl 0 rfl) ?_
        refine nw_aload_n X d_Col_multiplyFrom_65 rfl (lv_at hl 4 rfl) ?_
        refine gf_Col_13 X V (hz (1, 0) (by first | exact rfl | assumption | exact (by omega : _ < _))) d_Col_multiplyFrom_66 ?_
        refine nw_iload X d_Col_multiplyFrom_69 (lv_at hl 8 rfl) ?_
        refine hw_iald X V (hz (2, 0) (by first | exact rfl | assumption | exact (by omega : _ < _))) 0 rfl rfl hi (by omega) d_Col_multiplyFrom_71 ?_
        refine nw_icmp_lt X (tgt := 102) d_Col_multiplyFrom_72 (by decide) (by have := hs.2.1; have := hs.2.2.1; omega) (hB _ _) (fun hc => ?_) (fun hc => ?_)
        · skip
          have hr1 := hs.2.2.2.2.2 hc
          refine nw_aload_n X d_Col_multiplyFrom_102 rfl (lv_at hl 4 rfl) ?_
          refine gf_Col_29 X V (hz (1, 0) (by first | exact rfl | assumption | exact (by omega : _ < _))) d_Col_multiplyFrom_103 ?_
          refine nw_iload X d_Col_multiplyFrom_106 (lv_at hl 8 rfl) ?_
          refine hw_aald X V (hz (7, 0) (by first | exact rfl | assumption | exact (by omega : _ < _))) 2 rfl rfl rfl hi (by omega) rfl d_Col_multiplyFrom_108 ?_
          refine nw_iload X d_Col_multiplyFrom_109 (lv_at hl 1 rfl) ?_
          refine hw_iald X V (hz (8, i) (by first | exact rfl | assumption | exact (by omega : _ < _))) 0 rfl rfl (Nat.lt_of_lt_of_eq hs.1 hq.2.2.2.2.2.1.symm) (Nat.lt_of_le_of_lt (Nat.le_of_eq hq.2.2.2.2.2.1) (by omega)) d_Col_multiplyFrom_111 ?_
          refine nw_istore X (lv' := [(4, _), (11, _), (10, _), (9, _), (8, _), (0, _), (5, _), (6, _), (7, _)]) d_Col_multiplyFrom_112 hl (by decide) rfl (fun ls hl => ?_)
          refine nw_iload X d_Col_multiplyFrom_114 (lv_at hl 3 rfl) ?_
          refine nw_istore X (lv' := [(5, _), (4, _), (11, _), (10, _), (9, _), (8, _), (0, _), (6, _), (7, _)]) d_Col_multiplyFrom_116 hl (by decide) rfl (fun ls hl => ?_)
          refine nw_iload X d_Col_multiplyFrom_118 (lv_at hl 7 rfl) ?_
          refine nw_iload X d_Col_multiplyFrom_120 (lv_at hl 2 rfl) ?_
          refine nw_iload X d_Col_multiplyFrom_122 (lv_at hl 5 rfl) ?_
          refine nw_imul X d_Col_multiplyFrom_124 ?_
          refine nw_iadd X d_Col_multiplyFrom_125 ?_
          refine nw_istore X (lv' := [(6, _), (5, _), (4, _), (11, _), (10, _), (9, _), (8, _), (0, _), (7, _)]) d_Col_multiplyFrom_126 hl (by decide) rfl (fun ls hl => ?_)
          refine nw_iinc X (lv' := [(7, _), (6, _), (5, _), (4, _), (11, _), (10, _), (9, _), (8, _), (0, _)]) (k := 8) 1 d_Col_multiplyFrom_128 hl rfl (by decide) (by decide) rfl (fun ls hl => ?_)
          refine nw_goto X (tgt := 12) d_Col_multiplyFrom_131 (by decide) ?_
          exact IH12 (i + 1) _ _ _ _ (by omega) (by omega) hi (by rw [ez.2]; exact hr1.1) (by rw [ez.2]; exact hs.2.2.2.1) (by rw [← hinv, Nat.add_assoc]; exact congrArg (prod + ·) hr1.2.symm) (lv_sub hl [8, 3, 2, 1, 0] rfl)
        · skip
          have hr1 := hs.2.2.2.2.1 hc
          refine nw_iload X d_Col_multiplyFrom_75 (lv_at hl 0 rfl) ?_
          refine nw_aload_n X d_Col_multiplyFrom_77 rfl (lv_at hl 4 rfl) ?_
          refine gf_Col_13 X V (hz (1, 0) (by first | exact rfl | assumption | exact (by omega : _ < _))) d_Col_multiplyFrom_78 ?_
          refine nw_iload X d_Col_multiplyFrom_81 (lv_at hl 8 rfl) ?_
          refine hw_iald X V (hz (2, 0) (by first | exact rfl | assumption | exact (by omega : _ < _))) 0 rfl rfl hi (by omega) d_Col_multiplyFrom_83 ?_
          refine nw_isub X hc d_Col_multiplyFrom_84 ?_
          refine nw_istore X (lv' := [(11, _), (10, _), (9, _), (8, _), (0, _), (4, _), (5, _), (6, _), (7, _)]) d_Col_multiplyFrom_85 hl (by decide) rfl (fun ls hl => ?_)
          refine nw_aload_n X d_Col_multiplyFrom_87 rfl (lv_at hl 4 rfl) ?_
          refine gf_Col_32 X V (hz (1, 0) (by first | exact rfl | assumption | exact (by omega : _ < _))) d_Col_multiplyFrom_88 ?_
          refine nw_iload X d_Col_multiplyFrom_91 (lv_at hl 8 rfl) ?_
          refine hw_aald X V (hz (9, 0) (by first | exact rfl | assumption | exact (by omega : _ < _))) 2 rfl rfl rfl hi (by omega) rfl d_Col_multiplyFrom_93 ?_
          refine nw_iload X d_Col_multiplyFrom_94 (lv_at hl 1 rfl) ?_
          refine hw_iald X V (hz (10, i) (by first | exact rfl | assumption | exact (by omega : _ < _))) 0 rfl rfl (Nat.lt_of_lt_of_eq hs.1 hq.2.2.2.2.2.1.symm) (Nat.lt_of_le_of_lt (Nat.le_of_eq hq.2.2.2.2.2.1) (by omega)) d_Col_multiplyFrom_96 ?_
          refine nw_istore X (lv' := [(4, _), (11, _), (10, _), (9, _), (8, _), (0, _), (5, _), (6, _), (7, _)]) d_Col_multiplyFrom_97 hl (by decide) rfl (fun ls hl => ?_)
          refine nw_goto X (tgt := 114) d_Col_multiplyFrom_99 (by decide) ?_
          refine nw_iload X d_Col_multiplyFrom_114 (lv_at hl 3 rfl) ?_
          refine nw_istore X (lv' := [(5, _), (4, _), (11, _), (10, _), (9, _), (8, _), (0, _), (6, _), (7, _)]) d_Col_multiplyFrom_116 hl (by decide) rfl (fun ls hl => ?_)
          refine nw_iload X d_Col_multiplyFrom_118 (lv_at hl 7 rfl) ?_
          refine nw_iload X d_Col_multiplyFrom_120 (lv_at hl 2 rfl) ?_
          refine nw_iload X d_Col_multiplyFrom_122 (lv_at hl 5 rfl) ?_
          refine nw_imul X d_Col_multiplyFrom_124 ?_
          refine nw_iadd X d_Col_multiplyFrom_125 ?_
          refine nw_istore X (lv' := [(6, _), (5, _), (4, _), (11, _), (10, _), (9, _), (8, _), (0, _), (7, _)]) d_Col_multiplyFrom_126 hl (by decide) rfl (fun ls hl => ?_)
          refine nw_iinc X (lv' := [(7, _), (6, _), (5, _), (4, _), (11, _), (10, _), (9, _), (8, _), (0, _)]) (k := 8) 1 d_Col_multiplyFrom_128 hl rfl (by decide) (by decide) rfl (fun ls hl => ?_)
          refine nw_goto X (tgt := 12) d_Col_multiplyFrom_131 (by decide) ?_
          exact IH12 (i + 1) _ _ _ _ (by omega) (by omega) hi (by rw [ez.2]; exact hr1.1) (by rw [ez.2]; exact hs.2.2.2.1) (by rw [← hinv, Nat.add_assoc]; exact congrArg (prod + ·) hr1.2.symm) (lv_sub hl [8, 3, 2, 1, 0] rfl)
  exact LP12 (zz_n z - f + 1) f a b 0 _ (by omega) (Nat.le_refl _) hf ha hb (Nat.zero_add _) (lv_sub hl [4, 3, 2, 1, 0] rfl)
