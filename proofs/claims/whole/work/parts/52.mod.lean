/-! The reference: flags, elements, counting and closing. By program (wip/whole/gen/mod.py). -/
set_option maxHeartbeats 4000000 in
set_option maxRecDepth 20000 in
theorem cm_Mod_isGenerator (l : Launch) (z : zz_Z) (σ : hw_M) (hz : ∀ k, zz_k (zz_n z) k → zz_O z k) (hD : md_ok z σ) (x : Int32) : Met l y_Mod_isGenerator (hw_c y_Mod_isGenerator b_Mod_isGenerator 2 (some .boolean)) (hw_r 0) (va_Pc [.ref (zz_A z (20, 0)), .int x] (zz_B z σ)) (va_Qi (fun r σ' => ∃ b, b < 2 ∧ r = nI b ∧ (fun b σ' => σ' = σ ∧ (b = 1 ↔ el_i (zz_n z) x)) b σ') (zz_B z) (zz_F z)) 0 0 (zz_F z) := by
  refine hw_metz (post := (fun b σ' => σ' = σ ∧ (b = 1 ↔ el_i (zz_n z) x))) (by decide) (Nat.le_of_ble_eq_true rfl) ?_
  intro p e s m args below meth c ls Q X hret V hl
  have hl : lv_has ls 2 [(0, .ref (zz_A z (20, 0))), (1, .int x)] := hl
  have hB := V.1.2.2
  obtain ⟨hn7, hN, hn, hNe, h29, h30, h31⟩ := id hD
  refine nw_iload_n X d_Mod_isGenerator_0 rfl (lv_at hl 1 rfl) ?_
  refine lv_if_lt (tgt := 16) X.1.1 X.1.2.1 d_Mod_isGenerator_1 (by decide) (fun hc => ?_) (fun hc => ?_)
  · skip
    have hno : ¬ el_i (zz_n z) x := fun ⟨j, hj, e⟩ => by rw [e] at hc; exact nI_pos (by omega) hc
    refine nw_iconst X 0 d_Mod_isGenerator_16 (by decide) ?_
    exact hret 0 _ _ _ _ _ d_Mod_isGenerator_17 V (by decide) ⟨rfl, fun q => absurd q (by decide), fun q => absurd q hno⟩
  · skip
    have h0 := hc
    refine nw_iload_n X d_Mod_isGenerator_4 rfl (lv_at hl 1 rfl) ?_
    refine nw_aload_n X d_Mod_isGenerator_5 rfl (lv_at hl 0 rfl) ?_
    refine gf_Mod_44 X V (hz (20, 0) rfl) d_Mod_isGenerator_6 ?_
    rw [hn]
    refine lv_icmp_ge (tgt := 16) X.1.1 X.1.2.1 d_Mod_isGenerator_9 (by decide) (fun hc => ?_) (fun hc => ?_)
    · skip
      have hno : ¬ el_i (zz_n z) x := fun ⟨j, hj, e⟩ => by rw [e] at hc; exact nI_ge hj (by omega) hc
      refine nw_iconst X 0 d_Mod_isGenerator_16 (by decide) ?_
      exact hret 0 _ _ _ _ _ d_Mod_isGenerator_17 V (by decide) ⟨rfl, fun q => absurd q (by decide), fun q => absurd q hno⟩
    · skip
      have hyes : el_i (zz_n z) x := by
        rcases pk_ix x (n := zz_n z) (by omega) with h | h | h
        · exact absurd h h0
        · exact absurd h hc
        · exact h
      refine nw_iconst X 1 d_Mod_isGenerator_12 (by decide) ?_
      refine nw_goto X (tgt := 17) d_Mod_isGenerator_13 (by decide) ?_
      exact hret 1 _ _ _ _ _ d_Mod_isGenerator_17 V (by decide) ⟨rfl, fun _ => hyes, fun _ => rfl⟩
set_option maxHeartbeats 4000000 in
set_option maxRecDepth 20000 in
theorem cm_Mod_generators (l : Launch) (z : zz_Z) (σ : hw_M) (hz : ∀ k, zz_k (zz_n z) k → zz_O z k) (hD : md_ok z σ) : Met l y_Mod_generators (hw_c y_Mod_generators b_Mod_generators 1 (some .int)) (hw_r 0) (va_Pc [.ref (zz_A z (20, 0))] (zz_B z σ)) (va_Qi (fun r σ' => σ' = σ ∧ r = nI (zz_n z)) (zz_B z) (zz_F z)) 0 0 (zz_F z) := by
  refine hw_meti (post := (fun r σ' => σ' = σ ∧ r = nI (zz_n z))) (by decide) (Nat.le_of_ble_eq_true rfl) ?_
  intro p e s m args below meth c ls Q X hret V hl
  have hl : lv_has ls 1 [(0, .ref (zz_A z (20, 0)))] := hl
  have hB := V.1.2.2
  obtain ⟨hn7, hN, hn, hNe, h29, h30, h31⟩ := id hD
  refine nw_aload_n X d_Mod_generators_0 rfl (lv_at hl 0 rfl) ?_
  refine gf_Mod_44 X V (hz (20, 0) rfl) d_Mod_generators_1 ?_
  rw [hn]
  exact hret _ _ _ _ _ _ d_Mod_generators_4 V ⟨rfl, rfl⟩
set_option maxHeartbeats 4000000 in
set_option maxRecDepth 20000 in
theorem cm_Mod_size (l : Launch) (z : zz_Z) (σ : hw_M) (hz : ∀ k, zz_k (zz_n z) k → zz_O z k) (hD : md_ok z σ) : Met l y_Mod_size (hw_c y_Mod_size b_Mod_size 1 (some .int)) (hw_r 0) (va_Pc [.ref (zz_A z (20, 0))] (zz_B z σ)) (va_Qi (fun r σ' => σ' = σ ∧ r = nI (zz_N z)) (zz_B z) (zz_F z)) 0 0 (zz_F z) := by
  refine hw_meti (post := (fun r σ' => σ' = σ ∧ r = nI (zz_N z))) (by decide) (Nat.le_of_ble_eq_true rfl) ?_
  intro p e s m args below meth c ls Q X hret V hl
  have hl : lv_has ls 1 [(0, .ref (zz_A z (20, 0)))] := hl
  have hB := V.1.2.2
  obtain ⟨hn7, hN, hn, hNe, h29, h30, h31⟩ := id hD
  refine nw_aload_n X d_Mod_size_0 rfl (lv_at hl 0 rfl) ?_
  refine gf_Mod_48 X V (hz (20, 0) rfl) d_Mod_size_1 ?_
  rw [hNe]
  exact hret _ _ _ _ _ _ d_Mod_size_4 V ⟨rfl, rfl⟩
set_option maxHeartbeats 4000000 in
set_option maxRecDepth 20000 in
theorem cm_Mod_of (l : Launch) (z : zz_Z) (σ : hw_M) (hz : ∀ k, zz_k (zz_n z) k → zz_O z k) (a b : Nat) (ha : a < 128) (hb : b < 128) : Met l y_Mod_of (hw_c y_Mod_of b_Mod_of 3 (some .int)) (hw_r 0) (va_Pc [.ref (zz_A z (20, 0)), .int (nI a), .int (nI b)] (zz_B z σ)) (va_Qi (fun r σ' => σ' = σ ∧ r = nI (σ (25, 0) (128 * a + b))) (zz_B z) (zz_F z)) 0 0 (zz_F z) := by
  refine hw_meti (post := (fun r σ' => σ' = σ ∧ r = nI (σ (25, 0) (128 * a + b)))) (by decide) (Nat.le_of_ble_eq_true rfl) ?_
  intro p e s m args below meth c ls Q X hret V hl
  have hl : lv_has ls 3 [(0, .ref (zz_A z (20, 0))), (1, .int (nI a)), (2, .int (nI b))] := hl
  have hB := V.1.2.2
  refine nw_aload_n X d_Mod_of_0 rfl (lv_at hl 0 rfl) ?_
  refine gf_Mod_22 X V (hz (20, 0) rfl) d_Mod_of_1 ?_
  refine nw_sipush X 128 d_Mod_of_4 (by decide) ?_
  refine nw_iload_n X d_Mod_of_7 rfl (lv_at hl 1 rfl) ?_
  refine nw_imul X d_Mod_of_8 ?_
  refine nw_iload_n X d_Mod_of_9 rfl (lv_at hl 2 rfl) ?_
  refine nw_iadd X d_Mod_of_10 ?_
  refine hw_iald X V (hz (25, 0) rfl) 0 rfl rfl (by omega) (by decide) d_Mod_of_11 ?_
  exact hret _ _ _ _ _ _ d_Mod_of_12 V ⟨rfl, rfl⟩
set_option maxHeartbeats 4000000 in
set_option maxRecDepth 20000 in
theorem cm_Mod_is (l : Launch) (z : zz_Z) (σ : hw_M) (hz : ∀ k, zz_k (zz_n z) k → zz_O z k) (hD : md_ok z σ) (hf2 : σ (20, 0) 6 < 2) (x : Int32) : Met l y_Mod_is (hw_c y_Mod_is b_Mod_is 2 (some .boolean)) (hw_r 0) (va_Pc [.ref (zz_A z (20, 0)), .int x] (zz_B z σ)) (va_Qi (fun r σ' => ∃ b, b < 2 ∧ r = nI b ∧ (fun b σ' => σ' = σ ∧ (b = 1 ↔ σ (20, 0) 6 = 1 ∧ el_i (zz_N z) x)) b σ') (zz_B z) (zz_F z)) 0 0 (zz_F z) := by
  refine hw_metz (post := (fun b σ' => σ' = σ ∧ (b = 1 ↔ σ (20, 0) 6 = 1 ∧ el_i (zz_N z) x))) (by decide) (Nat.le_of_ble_eq_true rfl) ?_
  intro p e s m args below meth c ls Q X hret V hl
  have hl : lv_has ls 2 [(0, .ref (zz_A z (20, 0))), (1, .int x)] := hl
  have hB := V.1.2.2
  obtain ⟨hn7, hN, hn, hNe, h29, h30, h31⟩ := id hD
  refine nw_aload_n X d_Mod_is_0 rfl (lv_at hl 0 rfl) ?_
  refine gf_Mod_55 X V (hz (20, 0) rfl) d_Mod_is_1 ?_
  refine nw_if_eq X (tgt := 23) d_Mod_is_4 (by decide) (by omega) (fun hc => ?_) (fun hc => ?_)
  · skip
    have hno : ¬ (σ (20, 0) 6 = 1 ∧ el_i (zz_N z) x) := fun h => by omega
    refine nw_iconst X 0 d_Mod_is_23 (by decide) ?_
    exact hret 0 _ _ _ _ _ d_Mod_is_24 V (by decide) ⟨rfl, fun q => absurd q (by decide), fun q => absurd q hno⟩
  · skip
    have hf1 : σ (20, 0) 6 = 1 := by omega
    refine nw_iload_n X d_Mod_is_7 rfl (lv_at hl 1 rfl) ?_
    refine lv_if_lt (tgt := 23) X.1.1 X.1.2.1 d_Mod_is_8 (by decide) (fun hc => ?_) (fun hc => ?_)
    · skip
      have hno : ¬ (σ (20, 0) 6 = 1 ∧ el_i (zz_N z) x) := fun ⟨_, j, hj, e⟩ => by rw [e] at hc; exact nI_pos (by omega) hc
      refine nw_iconst X 0 d_Mod_is_23 (by decide) ?_
      exact hret 0 _ _ _ _ _ d_Mod_is_24 V (by decide) ⟨rfl, fun q => absurd q (by decide), fun q => absurd q hno⟩
    · skip
      have h0 := hc
      refine nw_iload_n X d_Mod_is_11 rfl (lv_at hl 1 rfl) ?_
      refine nw_aload_n X d_Mod_is_12 rfl (lv_at hl 0 rfl) ?_
      refine gf_Mod_48 X V (hz (20, 0) rfl) d_Mod_is_13 ?_
      rw [hNe]
      refine lv_icmp_ge (tgt := 23) X.1.1 X.1.2.1 d_Mod_is_16 (by decide) (fun hc => ?_) (fun hc => ?_)
      · skip
        have hno : ¬ (σ (20, 0) 6 = 1 ∧ el_i (zz_N z) x) := fun ⟨_, j, hj, e⟩ => by rw [e] at hc; exact nI_ge hj (by omega) hc
        refine nw_iconst X 0 d_Mod_is_23 (by decide) ?_
        exact hret 0 _ _ _ _ _ d_Mod_is_24 V (by decide) ⟨rfl, fun q => absurd q (by decide), fun q => absurd q hno⟩
      · skip
        have hyes : el_i (zz_N z) x := by
          rcases pk_ix x (n := (zz_N z)) (by omega) with h | h | h
          · exact absurd h h0
          · exact absurd h hc
          · exact h
        refine nw_iconst X 1 d_Mod_is_19 (by decide) ?_
        refine nw_goto X (tgt := 24) d_Mod_is_20 (by decide) ?_
        exact hret 1 _ _ _ _ _ d_Mod_is_24 V (by decide) ⟨rfl, fun _ => ⟨hf1, hyes⟩, fun _ => rfl⟩
set_option maxHeartbeats 4000000 in
set_option maxRecDepth 20000 in
theorem cm_Mod_isPlace (l : Launch) (z : zz_Z) (σ : hw_M) (hz : ∀ k, zz_k (zz_n z) k → zz_O z k) (hD : md_ok z σ) (hf2 : σ (20, 0) 6 < 2) (x : Int32) : Met l y_Mod_isPlace (hw_c y_Mod_isPlace b_Mod_isPlace 2 (some .boolean)) (hw_r 0) (va_Pc [.ref (zz_A z (20, 0)), .int x] (zz_B z σ)) (va_Qi (fun r σ' => ∃ b, b < 2 ∧ r = nI b ∧ (fun b σ' => σ' = σ ∧ (b = 1 ↔ σ (20, 0) 6 = 1 ∧ el_i 4 x)) b σ') (zz_B z) (zz_F z)) 0 0 (zz_F z) := by
  refine hw_metz (post := (fun b σ' => σ' = σ ∧ (b = 1 ↔ σ (20, 0) 6 = 1 ∧ el_i 4 x))) (by decide) (Nat.le_of_ble_eq_true rfl) ?_
  intro p e s m args below meth c ls Q X hret V hl
  have hl : lv_has ls 2 [(0, .ref (zz_A z (20, 0))), (1, .int x)] := hl
  have hB := V.1.2.2
  obtain ⟨hn7, hN, hn, hNe, h29, h30, h31⟩ := id hD
  refine nw_aload_n X d_Mod_isPlace_0 rfl (lv_at hl 0 rfl) ?_
  refine gf_Mod_55 X V (hz (20, 0) rfl) d_Mod_isPlace_1 ?_
  refine nw_if_eq X (tgt := 20) d_Mod_isPlace_4 (by decide) (by omega) (fun hc => ?_) (fun hc => ?_)
  · skip
    have hno : ¬ (σ (20, 0) 6 = 1 ∧ el_i 4 x) := fun h => by omega
    refine nw_iconst X 0 d_Mod_isPlace_20 (by decide) ?_
    exact hret 0 _ _ _ _ _ d_Mod_isPlace_21 V (by decide) ⟨rfl, fun q => absurd q (by decide), fun q => absurd q hno⟩
  · skip
    have hf1 : σ (20, 0) 6 = 1 := by omega
    refine nw_iload_n X d_Mod_isPlace_7 rfl (lv_at hl 1 rfl) ?_
    refine lv_if_lt (tgt := 20) X.1.1 X.1.2.1 d_Mod_isPlace_8 (by decide) (fun hc => ?_) (fun hc => ?_)
    · skip
      have hno : ¬ (σ (20, 0) 6 = 1 ∧ el_i 4 x) := fun ⟨_, j, hj, e⟩ => by rw [e] at hc; exact nI_pos (by omega) hc
      refine nw_iconst X 0 d_Mod_isPlace_20 (by decide) ?_
      exact hret 0 _ _ _ _ _ d_Mod_isPlace_21 V (by decide) ⟨rfl, fun q => absurd q (by decide), fun q => absurd q hno⟩
    · skip
      have h0 := hc
      refine nw_iload_n X d_Mod_isPlace_11 rfl (lv_at hl 1 rfl) ?_
      refine nw_iconst X 4 d_Mod_isPlace_12 (by decide) ?_
      refine lv_icmp_ge (tgt := 20) X.1.1 X.1.2.1 d_Mod_isPlace_13 (by decide) (fun hc => ?_) (fun hc => ?_)
      · skip
        have hno : ¬ (σ (20, 0) 6 = 1 ∧ el_i 4 x) := fun ⟨_, j, hj, e⟩ => by rw [e] at hc; exact nI_ge hj (by omega) hc
        refine nw_iconst X 0 d_Mod_isPlace_20 (by decide) ?_
        exact hret 0 _ _ _ _ _ d_Mod_isPlace_21 V (by decide) ⟨rfl, fun q => absurd q (by decide), fun q => absurd q hno⟩
      · skip
        have hyes : el_i 4 x := by
          rcases pk_ix x (n := 4) (by omega) with h | h | h
          · exact absurd h h0
          · exact absurd h hc
          · exact h
        refine nw_iconst X 1 d_Mod_isPlace_16 (by decide) ?_
        refine nw_goto X (tgt := 21) d_Mod_isPlace_17 (by decide) ?_
        exact hret 1 _ _ _ _ _ d_Mod_isPlace_21 V (by decide) ⟨rfl, fun _ => ⟨hf1, hyes⟩, fun _ => rfl⟩
set_option maxHeartbeats 4000000 in
set_option maxRecDepth 20000 in
theorem cm_Mod_worked (l : Launch) (z : zz_Z) (σ : hw_M) (hz : ∀ k, zz_k (zz_n z) k → zz_O z k) (hD : md_ok z σ) : Met l y_Mod_worked (hw_c y_Mod_worked b_Mod_worked 3 (some .int)) (hw_r 0) (va_Pc [.ref (zz_A z (20, 0))] (zz_B z σ)) (va_Qi (fun r σ' => σ' = σ ∧ r = nI (gp_cd (zz_N z) (fun a => σ (30, 0) a = 1))) (zz_B z) (zz_F z)) 0 0 (zz_F z) := by
  refine hw_meti (post := (fun r σ' => σ' = σ ∧ r = nI (gp_cd (zz_N z) (fun a => σ (30, 0) a = 1)))) (by decide) (Nat.le_of_ble_eq_true rfl) ?_
  intro p e s m args below meth c ls Q X hret V hl
  have hl : lv_has ls 3 [(0, .ref (zz_A z (20, 0)))] := hl
  have hB := V.1.2.2
  obtain ⟨hn7, hN, hn, hNe, h29, h30, h31⟩ := id hD
  refine nw_iconst X 0 d_Mod_worked_0 (by decide) ?_
  refine nw_istore_n X (lv' := [(1, _), (0, _)]) d_Mod_worked_1 rfl hl (by decide) rfl (fun ls hl => ?_)
  refine nw_iconst X 0 d_Mod_worked_2 (by decide) ?_
  refine nw_istore_n X (lv' := [(2, _), (1, _), (0, _)]) d_Mod_worked_3 rfl hl (by decide) rfl (fun ls hl => ?_)
  have LP4 : ∀ (d a n9 : Nat) (ls : Array Slot), zz_N z - a < d → (a ≤ zz_N z) → (n9 = gp_cd a (fun a => σ (30, 0) a = 1)) →  lv_has ls 3 [(0, .ref (zz_A z (20, 0))), (1, .int (nI n9)), (2, .int (nI a))] →  W p l e (hw_r 0) s m args below meth c s.heap [] 0 0 Q (F0 m 4 ls []) := by
    intro d
    induction d with
    | zero => intro a n9 ls hd; exact absurd hd (Nat.not_lt_zero _)
    | succ d IH4 =>
      intro a n9 ls hd haN hcnt hl
      refine nw_iload_n X d_Mod_worked_4 rfl (lv_at hl 2 rfl) ?_
      refine nw_aload_n X d_Mod_worked_5 rfl (lv_at hl 0 rfl) ?_
      refine gf_Mod_48 X V (hz (20, 0) rfl) d_Mod_worked_6 ?_
      rw [hNe]
      refine nw_icmp_ge X (tgt := 35) d_Mod_worked_9 (by decide) (by first | assumption | omega) (by first | assumption | omega) (fun ha => ?_) (fun ha => ?_)
      · skip
        refine nw_iload_n X d_Mod_worked_35 rfl (lv_at hl 1 rfl) ?_
        exact hret _ _ _ _ _ _ d_Mod_worked_36 V ⟨rfl, by rw [hcnt, show a = zz_N z by omega]⟩
      · skip
        refine nw_aload_n X d_Mod_worked_12 rfl (lv_at hl 0 rfl) ?_
        refine gf_Mod_38 X V (hz (20, 0) rfl) d_Mod_worked_13 ?_
        refine nw_iload_n X d_Mod_worked_16 rfl (lv_at hl 2 rfl) ?_
        refine hw_zald X V (hz (30, 0) rfl) 1 rfl rfl (by omega) (by decide) d_Mod_worked_17 ?_
        refine nw_if_eq X (tgt := 27) d_Mod_worked_18 (by decide) (hB _ _) (fun hc => ?_) (fun hc => ?_)
        · skip
          have hcnt2 : n9 = gp_cd (a + 1) (fun a => σ (30, 0) a = 1) := by rw [(gp_cd_succ (P := fun a => σ (30, 0) a = 1) a).2 (fun h => by omega)]; exact hcnt
          refine nw_iload_n X d_Mod_worked_27 rfl (lv_at hl 1 rfl) ?_
          refine nw_istore_n X (lv' := [(1, _), (0, _), (2, _)]) d_Mod_worked_28 rfl hl (by decide) rfl (fun ls hl => ?_)
          refine nw_iinc X (lv' := [(2, _), (1, _), (0, _)]) (k := 2) 1 d_Mod_worked_29 hl rfl (by decide) (by decide) rfl (fun ls hl => ?_)
          refine nw_goto X (tgt := 4) d_Mod_worked_32 (by decide) ?_
          exact IH4 (a + 1) _ _ (by omega) ha hcnt2 (lv_sub hl [2, 1, 0] rfl)
        · skip
          have hcnt2 : n9 + 1 = gp_cd (a + 1) (fun a => σ (30, 0) a = 1) := by rw [(gp_cd_succ (P := fun a => σ (30, 0) a = 1) a).1 (by have := h30 a; omega), hcnt]
          refine nw_iload_n X d_Mod_worked_21 rfl (lv_at hl 1 rfl) ?_
          refine nw_iconst X 1 d_Mod_worked_22 (by decide) ?_
          refine nw_iadd X d_Mod_worked_23 ?_
          refine nw_goto X (tgt := 28) d_Mod_worked_24 (by decide) ?_
          refine nw_istore_n X (lv' := [(1, _), (0, _), (2, _)]) d_Mod_worked_28 rfl hl (by decide) rfl (fun ls hl => ?_)
          refine nw_iinc X (lv' := [(2, _), (1, _), (0, _)]) (k := 2) 1 d_Mod_worked_29 hl rfl (by decide) (by decide) rfl (fun ls hl => ?_)
          refine nw_goto X (tgt := 4) d_Mod_worked_32 (by decide) ?_
          exact IH4 (a + 1) _ _ (by omega) ha hcnt2 (lv_sub hl [2, 1, 0] rfl)
  exact LP4 (zz_N z + 1) 0 0 _ (by omega) (Nat.zero_le _) rfl (lv_sub hl [2, 1, 0] rfl)
set_option maxHeartbeats 4000000 in
set_option maxRecDepth 20000 in
theorem cm_Mod_close (l : Launch) (z : zz_Z) (σ : hw_M) (hz : ∀ k, zz_k (zz_n z) k → zz_O z k) (hD : md_ok z σ) (o : Nat → Nat → Nat) (hg : mg_ok z σ o) : Met l y_Mod_close (hw_c y_Mod_close b_Mod_close 4 none) (hw_r 1) (va_Pc [.ref (zz_A z (20, 0))] (zz_B z σ)) (va_Qv (fun σ' => (∀ u : hw_P, u ≠ (30, 0) → σ' u = σ u) ∧ (∀ a, σ' (30, 0) a < 2) ∧ ∀ a, a < zz_N z → (σ' (30, 0) a = 1 ↔ gp_gn (zz_N z) o (fun x => x < zz_N z ∧ σ (30, 0) x = 1) a)) (zz_B z) (zz_F z)) 0 0 (zz_F z) := by
  refine hw_metv (post := (fun σ' => (∀ u : hw_P, u ≠ (30, 0) → σ' u = σ u) ∧ (∀ a, σ' (30, 0) a < 2) ∧ ∀ a, a < zz_N z → (σ' (30, 0) a = 1 ↔ gp_gn (zz_N z) o (fun x => x < zz_N z ∧ σ (30, 0) x = 1) a))) (by decide) (Nat.le_of_ble_eq_true rfl) ?_
  intro p e s m args below meth c ls Q X hret V hl
  have hl : lv_has ls 4 [(0, .ref (zz_A z (20, 0)))] := hl
  have hB := V.1.2.2
  obtain ⟨hn7, hN, hn, hNe, h29, h30, h31⟩ := id hD
  have g := hg.1
  have hsb := gp_gn.sb (X := (fun x => x < zz_N z ∧ σ (30, 0) x = 1)) g (fun x hx => hx.1)
  refine nw_aload_n X d_Mod_close_0 rfl (lv_at hl 0 rfl) ?_
  refine gf_Mod_38 X V (hz (20, 0) rfl) d_Mod_close_1 ?_
  refine nw_iconst X 0 d_Mod_close_4 (by decide) ?_
  refine nw_iconst X 1 d_Mod_close_5 (by decide) ?_
  refine hw_zast X V (hz (30, 0) rfl) 1 (fun _ => rfl) rfl (by decide) (by decide) (by decide) d_Mod_close_6 (fun H locs V => ?_)
  refine nw_iconst X 0 d_Mod_close_7 (by decide) ?_
  refine nw_istore_n X (lv' := [(1, _), (0, _)]) d_Mod_close_8 rfl hl (by decide) rfl (fun ls hl => ?_)
  have LP9 : ∀ (d b9 : Nat) (σ1 : hw_M) (H : Heap) (locs : List Loc) (ls : Array Slot), zz_N z - b9 < d → (∀ u : hw_P, u ≠ (30, 0) → σ1 u = σ u) → (∀ a, σ1 (30, 0) a < 2) → (∀ x, x < zz_N z ∧ σ (30, 0) x = 1 → σ1 (30, 0) x = 1) → (σ1 (30, 0) 0 = 1) → (∀ x, x < zz_N z → σ1 (30, 0) x = 1 → gp_gn (zz_N z) o (fun x => x < zz_N z ∧ σ (30, 0) x = 1) x) → (b9 = 0 ∨ ∃ W9 : Nat → Prop, b9 = gp_cd (zz_N z) W9 ∧ (∀ x, x < zz_N z → W9 x → σ1 (30, 0) x = 1) ∧ ∀ a b, a < zz_N z → b < zz_N z → W9 a → W9 b → σ1 (30, 0) (o a b) = 1) → (b9 ≤ zz_N z) → zz_V z σ1 s.heap H locs →  lv_has ls 4 [(0, .ref (zz_A z (20, 0))), (1, .int (nI b9))] →  W p l e (hw_r 1) s m args below meth c H locs 0 0 Q (F0 m 9 ls []) := by
    intro d
    induction d with
    | zero => intro b9 σ1 H locs ls hd; exact absurd hd (Nat.not_lt_zero _)
    | succ d IH9 =>
      intro b9 σ1 H locs ls hd hfr hb2 hX h0 hgn hpr hb9 V hl
      have hB := V.1.2.2
      have e20 : σ1 (20, 0) = σ (20, 0) := hfr (20, 0) (hw_ne (by decide))
      have e25 : σ1 (25, 0) = σ (25, 0) := hfr (25, 0) (hw_ne (by decide))
      have hNe1 : σ1 (20, 0) 1 = zz_N z := by rw [e20]; exact hNe
      have hle := gp_cd_le (zz_N z) (fun a => σ1 (30, 0) a = 1)
      refine nw_aload_n X d_Mod_close_9 rfl (lv_at hl 0 rfl) ?_
      refine hw_calli X V (hz (20, 0) rfl) rfl rfl (cm_Mod_worked l z σ1 hz (md_mv hD hfr hb2)) cs_Mod_94 (by decide) rfl hl.1 rfl (Nat.le_of_ble_eq_true rfl) (by decide) d_Mod_close_10 (fun r σ' H locs V hr => ?_)
      obtain ⟨hσ, rfl⟩ := hr
      rw [hσ] at V
      clear hσ
      have hB := V.1.2.2
      refine nw_iload_n X d_Mod_close_13 rfl (lv_at hl 1 rfl) ?_
      refine nw_icmp_le X (tgt := 87) d_Mod_close_14 (by decide) (by omega) (by omega) (fun hcw => ?_) (fun hcw => ?_)
      · skip
        exact hret _ _ _ _ _ d_Mod_close_87 V ⟨hfr, hb2, md_closed g (fun x hx => hx.1) hX h0 hgn hpr hcw⟩
      · skip
        refine nw_aload_n X d_Mod_close_17 rfl (lv_at hl 0 rfl) ?_
        refine hw_calli X V (hz (20, 0) rfl) rfl rfl (cm_Mod_worked l z σ1 hz (md_mv hD hfr hb2)) cs_Mod_94 (by decide) rfl hl.1 rfl (Nat.le_of_ble_eq_true rfl) (by decide) d_Mod_close_18 (fun r σ' H locs V hr => ?_)
        obtain ⟨hσ, rfl⟩ := hr
        rw [hσ] at V
        clear hσ
        have hB := V.1.2.2
        refine nw_istore_n X (lv' := [(1, _), (0, _)]) d_Mod_close_21 rfl hl (by decide) rfl (fun ls hl => ?_)
        refine nw_iconst X 0 d_Mod_close_22 (by decide) ?_
        refine nw_istore_n X (lv' := [(2, _), (1, _), (0, _)]) d_Mod_close_23 rfl hl (by decide) rfl (fun ls hl => ?_)
        have LP24 : ∀ (d a : Nat) (σ2 : hw_M) (H : Heap) (locs : List Loc) (ls : Array Slot), zz_N z - a < d → (a ≤ zz_N z) → (∀ u : hw_P, u ≠ (30, 0) → σ2 u = σ u) → (∀ a, σ2 (30, 0) a < 2) → (∀ x, x < zz_N z ∧ σ (30, 0) x = 1 → σ2 (30, 0) x = 1) → (σ2 (30, 0) 0 = 1) → (∀ x, x < zz_N z → σ2 (30, 0) x = 1 → gp_gn (zz_N z) o (fun x => x < zz_N z ∧ σ (30, 0) x = 1) x) → (∀ x, x < zz_N z → σ1 (30, 0) x = 1 → σ2 (30, 0) x = 1) → (∀ a9, a9 < a → ∀ b, b < zz_N z → σ1 (30, 0) a9 = 1 → σ1 (30, 0) b = 1 → σ2 (30, 0) (o a9 b) = 1) → zz_V z σ2 s.heap H locs →  lv_has ls 4 [(0, .ref (zz_A z (20, 0))), (1, .int (nI (gp_cd (zz_N z) (fun a => σ1 (30, 0) a = 1)))), (2, .int (nI a))] →  W p l e (hw_r 1) s m args below meth c H locs 0 0 Q (F0 m 24 ls []) := by
          intro d
          induction d with
          | zero => intro a σ2 H locs ls hd; exact absurd hd (Nat.not_lt_zero _)
          | succ d IH24 =>
            intro a σ2 H locs ls hd haN hfr hb2 hX h0 hgn hmn hdn V hl
            have hB := V.1.2.2
            have e20 : σ2 (20, 0) = σ (20, 0) := hfr (20, 0) (hw_ne (by decide))
            have e25 : σ2 (25, 0) = σ (25, 0) := hfr (25, 0) (hw_ne (by decide))
            have hNe1 : σ2 (20, 0) 1 = zz_N z := by rw [e20]; exact hNe
            refine nw_iload_n X d_Mod_close_24 rfl (lv_at hl 2 rfl) ?_
            refine nw_aload_n X d_Mod_close_25 rfl (lv_at hl 0 rfl) ?_
            refine gf_Mod_48 X V (hz (20, 0) rfl) d_Mod_close_26 ?_
            rw [hNe1]
            refine nw_icmp_ge X (tgt := 84) d_Mod_close_29 (by decide) (by first | assumption | omega) (by first | assumption | omega) (fun ha => ?_) (fun ha => ?_)
            · skip
              have hb9 : True := trivial
              refine nw_goto X (tgt := 9) d_Mod_close_84 (by decide) ?_
              exact IH9 (gp_cd (zz_N z) (fun a => σ1 (30, 0) a = 1)) _ _ _ _ (by omega) hfr hb2 hX h0 hgn (Or.inr ⟨fun x => σ1 (30, 0) x = 1, rfl, hmn, fun a9 b h1 h2 h3 h4 => hdn a9 (by omega) b h2 h3 h4⟩) hle V (lv_sub hl [0, 1] rfl)
            · skip
              refine nw_iconst X 0 d_Mod_close_32 (by decide) ?_
              refine nw_istore_n X (lv' := [(3, _), (0, _), (1, _), (2, _)]) d_Mod_close_33 rfl hl (by decide) rfl (fun ls hl => ?_)
              have LP34 : ∀ (d b : Nat) (σ3 : hw_M) (H : Heap) (locs : List Loc) (ls : Array Slot), zz_N z - b < d → (b ≤ zz_N z) → (∀ u : hw_P, u ≠ (30, 0) → σ3 u = σ u) → (∀ a, σ3 (30, 0) a < 2) → (∀ x, x < zz_N z ∧ σ (30, 0) x = 1 → σ3 (30, 0) x = 1) → (σ3 (30, 0) 0 = 1) → (∀ x, x < zz_N z → σ3 (30, 0) x = 1 → gp_gn (zz_N z) o (fun x => x < zz_N z ∧ σ (30, 0) x = 1) x) → (∀ x, x < zz_N z → σ1 (30, 0) x = 1 → σ3 (30, 0) x = 1) → (∀ a9, a9 < a → ∀ b, b < zz_N z → σ1 (30, 0) a9 = 1 → σ1 (30, 0) b = 1 → σ3 (30, 0) (o a9 b) = 1) → (∀ b9, b9 < b → σ1 (30, 0) a = 1 → σ1 (30, 0) b9 = 1 → σ3 (30, 0) (o a b9) = 1) → zz_V z σ3 s.heap H locs →  lv_has ls 4 [(0, .ref (zz_A z (20, 0))), (1, .int (nI (gp_cd (zz_N z) (fun a => σ1 (30, 0) a = 1)))), (2, .int (nI a)), (3, .int (nI b))] →  W p l e (hw_r 1) s m args below meth c H locs 0 0 Q (F0 m 34 ls []) := by
                intro d
                induction d with
                | zero => intro b σ3 H locs ls hd; exact absurd hd (Nat.not_lt_zero _)
                | succ d IH34 =>
                  intro b σ3 H locs ls hd hbN hfr hb2 hX h0 hgn hmn hdn hrow V hl
                  have hB := V.1.2.2
                  have e20 : σ3 (20, 0) = σ (20, 0) := hfr (20, 0) (hw_ne (by decide))
                  have e25 : σ3 (25, 0) = σ (25, 0) := hfr (25, 0) (hw_ne (by decide))
                  have hNe1 : σ3 (20, 0) 1 = zz_N z := by rw [e20]; exact hNe
                  refine nw_iload_n X d_Mod_close_34 rfl (lv_at hl 3 rfl) ?_
                  refine nw_aload_n X d_Mod_close_35 rfl (lv_at hl 0 rfl) ?_
                  refine gf_Mod_48 X V (hz (20, 0) rfl) d_Mod_close_36 ?_
                  rw [hNe1]
                  refine nw_icmp_ge X (tgt := 78) d_Mod_close_39 (by decide) (by first | assumption | omega) (by first | assumption | omega) (fun hb => ?_) (fun hb => ?_)
                  · skip
                    have hrow9 : ∀ b9, b9 < zz_N z → σ1 (30, 0) a = 1 → σ1 (30, 0) b9 = 1 → σ3 (30, 0) (o a b9) = 1 := fun b9 h1 h2 h3 => hrow b9 (by omega) h2 h3
                    refine nw_iinc X (lv' := [(2, _), (0, _), (1, _), (3, _)]) (k := 2) 1 d_Mod_close_78 hl rfl (by decide) (by decide) rfl (fun ls hl => ?_)
                    refine nw_goto X (tgt := 24) d_Mod_close_81 (by decide) ?_
                    exact IH24 (a + 1) _ _ _ _ (by omega) ha hfr hb2 hX h0 hgn hmn (fun a9 h1 b h2 h3 h4 => by by_cases e : a9 = a; rw [e] at h3 ⊢; exact hrow9 b h2 h3 h4; exact hdn a9 (by omega) b h2 h3 h4) V (lv_sub hl [1, 2, 0] rfl)
                  · skip
                    refine nw_aload_n X d_Mod_close_42 rfl (lv_at hl 0 rfl) ?_
                    refine gf_Mod_38 X V (hz (20, 0) rfl) d_Mod_close_43 ?_
                    refine nw_iload_n X d_Mod_close_46 rfl (lv_at hl 2 rfl) ?_
                    refine hw_zald X V (hz (30, 0) rfl) 1 rfl rfl (by omega) (by decide) d_Mod_close_47 ?_
                    refine nw_if_eq X (tgt := 78) d_Mod_close_48 (by decide) (hB _ _) (fun hwa => ?_) (fun hwa => ?_)
                    · skip
                      have hrow9 : ∀ b9, b9 < zz_N z → σ1 (30, 0) a = 1 → σ1 (30, 0) b9 = 1 → σ3 (30, 0) (o a b9) = 1 := fun b9 h1 h2 h3 => by have := hmn a ha h2; omega
                      refine nw_iinc X (lv' := [(2, _), (0, _), (1, _), (3, _)]) (k := 2) 1 d_Mod_close_78 hl rfl (by decide) (by decide) rfl (fun ls hl => ?_)
                      refine nw_goto X (tgt := 24) d_Mod_close_81 (by decide) ?_
                      exact IH24 (a + 1) _ _ _ _ (by omega) ha hfr hb2 hX h0 hgn hmn (fun a9 h1 b h2 h3 h4 => by by_cases e : a9 = a; rw [e] at h3 ⊢; exact hrow9 b h2 h3 h4; exact hdn a9 (by omega) b h2 h3 h4) V (lv_sub hl [1, 2, 0] rfl)
                    · skip
                      have hwa1 : σ3 (30, 0) a = 1 := by have := hb2 a; omega
                      refine nw_aload_n X d_Mod_close_51 rfl (lv_at hl 0 rfl) ?_
                      refine gf_Mod_38 X V (hz (20, 0) rfl) d_Mod_close_52 ?_
                      refine nw_iload_n X d_Mod_close_55 rfl (lv_at hl 3 rfl) ?_
                      refine hw_zald X V (hz (30, 0) rfl) 1 rfl rfl (by omega) (by decide) d_Mod_close_56 ?_
                      refine nw_if_eq X (tgt := 72) d_Mod_close_57 (by decide) (hB _ _) (fun hwb => ?_) (fun hwb => ?_)
                      · skip
                        have hfr3 := hfr
                        have hb3 := hb2
                        have hX3 := hX
                        have h03 := h0
                        have hgn3 := hgn
                        have hmn3 := hmn
                        have hdn3 := hdn
                        have hrow3 : ∀ b9, b9 < b + 1 → σ1 (30, 0) a = 1 → σ1 (30, 0) b9 = 1 → σ3 (30, 0) (o a b9) = 1 := fun b9 h1 h2 h3 => by by_cases e : b9 = b; rw [e] at h3; have := hmn b hb h3; omega; exact hrow b9 (by omega) h2 h3
                        refine nw_iinc X (lv' := [(3, _), (0, _), (1, _), (2, _)]) (k := 3) 1 d_Mod_close_72 hl rfl (by decide) (by decide) rfl (fun ls hl => ?_)
                        refine nw_goto X (tgt := 34) d_Mod_close_75 (by decide) ?_
                        exact IH34 (b + 1) _ _ _ _ (by omega) hb hfr3 hb3 hX3 h03 hgn3 hmn3 hdn3 hrow3 V (lv_sub hl [1, 2, 3, 0] rfl)
                      · skip
                        have hwb1 : σ3 (30, 0) b = 1 := by have := hb2 b; omega
                        have hol := g.lt ha hb
                        refine nw_aload_n X d_Mod_close_60 rfl (lv_at hl 0 rfl) ?_
                        refine gf_Mod_38 X V (hz (20, 0) rfl) d_Mod_close_61 ?_
                        refine nw_aload_n X d_Mod_close_64 rfl (lv_at hl 0 rfl) ?_
                        refine nw_iload_n X d_Mod_close_65 rfl (lv_at hl 2 rfl) ?_
                        refine nw_iload_n X d_Mod_close_66 rfl (lv_at hl 3 rfl) ?_
                        refine hw_calli X V (hz (20, 0) rfl) rfl rfl (cm_Mod_of l z σ3 hz a b (by omega) (by omega)) cs_Mod_59 (by decide) rfl hl.1 rfl (Nat.le_of_ble_eq_true rfl) (by decide) d_Mod_close_67 (fun r σ' H locs V hr => ?_)
                        obtain ⟨hσ, rfl⟩ := hr
                        rw [hσ] at V
                        clear hσ
                        have hB := V.1.2.2
                        rw [e25, hg.2.1 a b ha hb]
                        refine nw_iconst X 1 d_Mod_close_70 (by decide) ?_
                        refine hw_zast X V (hz (30, 0) rfl) 1 (fun _ => rfl) rfl (by omega) (by decide) (by decide) d_Mod_close_71 (fun H locs V => ?_)
                        have hB := V.1.2.2
                        have hfr3 : ∀ u : hw_P, u ≠ (30, 0) → hw_up σ3 (30, 0) (o a b) 1 u = σ u := fun u hu => (hw_up_k _ _ _ hu).trans (hfr u hu)
                        have hb3 : ∀ a9, hw_up σ3 (30, 0) (o a b) 1 (30, 0) a9 < 2 := md_up2 hb2 (by decide)
                        have hX3 : ∀ x, x < zz_N z ∧ σ (30, 0) x = 1 → hw_up σ3 (30, 0) (o a b) 1 (30, 0) x = 1 := fun x hx => md_set1 (hX x hx)
                        have h03 : hw_up σ3 (30, 0) (o a b) 1 (30, 0) 0 = 1 := md_set1 h0
                        have hgn3 : ∀ x, x < zz_N z → hw_up σ3 (30, 0) (o a b) 1 (30, 0) x = 1 → gp_gn (zz_N z) o (fun x => x < zz_N z ∧ σ (30, 0) x = 1) x := fun x hx h1 => by rw [hw_up_v] at h1; by_cases e : x = o a b; rw [e]; exact hsb.2.2 _ _ (hgn a ha hwa1) (hgn b hb hwb1); rw [if_neg e] at h1; exact hgn x hx h1
                        have hmn3 : ∀ x, x < zz_N z → σ1 (30, 0) x = 1 → hw_up σ3 (30, 0) (o a b) 1 (30, 0) x = 1 := fun x hx h => md_set1 (hmn x hx h)
                        have hdn3 : ∀ a9, a9 < a → ∀ b9, b9 < zz_N z → σ1 (30, 0) a9 = 1 → σ1 (30, 0) b9 = 1 → hw_up σ3 (30, 0) (o a b) 1 (30, 0) (o a9 b9) = 1 := fun a9 h1 b9 h2 h3 h4 => md_set1 (hdn a9 h1 b9 h2 h3 h4)
                        have hrow3 : ∀ b9, b9 < b + 1 → σ1 (30, 0) a = 1 → σ1 (30, 0) b9 = 1 → hw_up σ3 (30, 0) (o a b) 1 (30, 0) (o a b9) = 1 := fun b9 h1 h2 h3 => by by_cases e : b9 = b; rw [e]; exact hw_up_s _ _ _ _; exact md_set1 (hrow b9 (by omega) h2 h3)
                        refine nw_iinc X (lv' := [(3, _), (0, _), (1, _), (2, _)]) (k := 3) 1 d_Mod_close_72 hl rfl (by decide) (by decide) rfl (fun ls hl => ?_)
                        refine nw_goto X (tgt := 34) d_Mod_close_75 (by decide) ?_
                        exact IH34 (b + 1) _ _ _ _ (by omega) hb hfr3 hb3 hX3 h03 hgn3 hmn3 hdn3 hrow3 V (lv_sub hl [1, 2, 3, 0] rfl)
              exact LP34 (zz_N z + 1) 0 _ _ _ _ (by omega) (Nat.zero_le _) hfr hb2 hX h0 hgn hmn hdn (fun b9 h => absurd h (Nat.not_lt_zero _)) V (lv_sub hl [1, 2, 3, 0] rfl)
        exact LP24 (zz_N z + 1) 0 _ _ _ _ (by omega) (Nat.zero_le _) hfr hb2 hX h0 hgn (fun x _ h => h) (fun a9 h => absurd h (Nat.not_lt_zero _)) V (lv_sub hl [2, 1, 0] rfl)
  exact LP9 (zz_N z + 1) 0 _ _ _ _ (by omega) (fun u hu => hw_up_k _ _ _ hu) (md_up2 h30 (by decide)) (fun x hx => md_set1 hx.2) (hw_up_s _ _ _ _) (fun x hx h1 => by rw [hw_up_v] at h1; by_cases e : x = 0; rw [e]; exact hsb.1; rw [if_neg e] at h1; exact gp_gn.in ⟨hx, h1⟩) (Or.inl rfl) (Nat.zero_le _) V (lv_sub hl [1, 0] rfl)
set_option maxHeartbeats 4000000 in
set_option maxRecDepth 20000 in
theorem cm_Mod_take (l : Launch) (z : zz_Z) (σ : hw_M) (hz : ∀ k, zz_k (zz_n z) k → zz_O z k) (hD : md_ok z σ) (s9 : Nat) (hs : s9 < 4) : Met l y_Mod_take (hw_c y_Mod_take b_Mod_take 3 none) (hw_r 0) (va_Pc [.ref (zz_A z (20, 0)), .int (nI s9)] (zz_B z σ)) (va_Qv (fun σ' => (∀ u : hw_P, u ≠ (30, 0) → σ' u = σ u) ∧ (∀ a, σ' (30, 0) a < 2) ∧ ∀ a, a < zz_N z → σ' (30, 0) a = σ (29, 0) (128 * s9 + a)) (zz_B z) (zz_F z)) 0 0 (zz_F z) := by
  refine hw_metv (post := (fun σ' => (∀ u : hw_P, u ≠ (30, 0) → σ' u = σ u) ∧ (∀ a, σ' (30, 0) a < 2) ∧ ∀ a, a < zz_N z → σ' (30, 0) a = σ (29, 0) (128 * s9 + a))) (by decide) (Nat.le_of_ble_eq_true rfl) ?_
  intro p e s m args below meth c ls Q X hret V hl
  have hl : lv_has ls 3 [(0, .ref (zz_A z (20, 0))), (1, .int (nI s9))] := hl
  have hB := V.1.2.2
  obtain ⟨hn7, hN, hn, hNe, h29, h30, h31⟩ := id hD
  refine nw_iconst X 0 d_Mod_take_0 (by decide) ?_
  refine nw_istore_n X (lv' := [(2, _), (0, _), (1, _)]) d_Mod_take_1 rfl hl (by decide) rfl (fun ls hl => ?_)
  have LP2 : ∀ (d a : Nat) (σ1 : hw_M) (H : Heap) (locs : List Loc) (ls : Array Slot), zz_N z - a < d → (a ≤ zz_N z) → (∀ u : hw_P, u ≠ (30, 0) → σ1 u = σ u) → (∀ a, σ1 (30, 0) a < 2) → (∀ y, y < a → σ1 (30, 0) y = σ (29, 0) (128 * s9 + y)) → zz_V z σ1 s.heap H locs →  lv_has ls 3 [(0, .ref (zz_A z (20, 0))), (1, .int (nI s9)), (2, .int (nI a))] →  W p l e (hw_r 0) s m args below meth c H locs 0 0 Q (F0 m 2 ls []) := by
    intro d
    induction d with
    | zero => intro a σ1 H locs ls hd; exact absurd hd (Nat.not_lt_zero _)
    | succ d IH2 =>
      intro a σ1 H locs ls hd haN hfr hb2 hv V hl
      have hB := V.1.2.2
      have e20 : σ1 (20, 0) = σ (20, 0) := hfr (20, 0) (hw_ne (by decide))
      have e25 : σ1 (25, 0) = σ (25, 0) := hfr (25, 0) (hw_ne (by decide))
      have hNe1 : σ1 (20, 0) 1 = zz_N z := by rw [e20]; exact hNe
      have e29 : σ1 (29, 0) = σ (29, 0) := hfr (29, 0) (hw_ne (by decide))
      refine nw_iload_n X d_Mod_take_2 rfl (lv_at hl 2 rfl) ?_
      refine nw_aload_n X d_Mod_take_3 rfl (lv_at hl 0 rfl) ?_
      refine gf_Mod_48 X V (hz (20, 0) rfl) d_Mod_take_4 ?_
      rw [hNe1]
      refine nw_icmp_ge X (tgt := 34) d_Mod_take_7 (by decide) (by first | assumption | omega) (by first | assumption | omega) (fun ha => ?_) (fun ha => ?_)
      · skip
        exact hret _ _ _ _ _ d_Mod_take_34 V ⟨hfr, hb2, fun a9 h9 => hv a9 (by omega)⟩
      · skip
        refine nw_aload_n X d_Mod_take_10 rfl (lv_at hl 0 rfl) ?_
        refine gf_Mod_38 X V (hz (20, 0) rfl) d_Mod_take_11 ?_
        refine nw_iload_n X d_Mod_take_14 rfl (lv_at hl 2 rfl) ?_
        refine nw_aload_n X d_Mod_take_15 rfl (lv_at hl 0 rfl) ?_
        refine gf_Mod_34 X V (hz (20, 0) rfl) d_Mod_take_16 ?_
        refine nw_sipush X 128 d_Mod_take_19 (by decide) ?_
        refine nw_iload_n X d_Mod_take_22 rfl (lv_at hl 1 rfl) ?_
        refine nw_imul X d_Mod_take_23 ?_
        refine nw_iload_n X d_Mod_take_24 rfl (lv_at hl 2 rfl) ?_
        refine nw_iadd X d_Mod_take_25 ?_
        refine hw_zald X V (hz (29, 0) rfl) 1 rfl rfl (by omega) (by decide) d_Mod_take_26 ?_
        refine hw_zast X V (hz (30, 0) rfl) 1 (fun _ => rfl) rfl (by omega) (by decide) (by rw [e29]; exact h29 _) d_Mod_take_27 (fun H locs V => ?_)
        refine nw_iinc X (lv' := [(2, _), (0, _), (1, _)]) (k := 2) 1 d_Mod_take_28 hl rfl (by decide) (by decide) rfl (fun ls hl => ?_)
        refine nw_goto X (tgt := 2) d_Mod_take_31 (by decide) ?_
        exact IH2 (a + 1) _ _ _ _ (by omega) ha (fun u hu => (hw_up_k _ _ _ hu).trans (hfr u hu)) (md_up2 hb2 (by rw [e29]; exact h29 _)) (fm_put hv (by rw [e29])) V (lv_sub hl [1, 2, 0] rfl)
  exact LP2 (zz_N z + 1) 0 _ _ _ _ (by omega) (Nat.zero_le _) (fun _ _ => rfl) h30 (fun y hy => absurd hy (Nat.not_lt_zero _)) V (lv_sub hl [1, 2, 0] rfl)
set_option maxHeartbeats 4000000 in
set_option maxRecDepth 20000 in
theorem cm_Mod_put (l : Launch) (z : zz_Z) (σ : hw_M) (hz : ∀ k, zz_k (zz_n z) k → zz_O z k) (hD : md_ok z σ) (o : Nat → Nat → Nat) (hg : mg_ok z σ o) (s9 : Nat) (hs : s9 < 4) : Met l y_Mod_put (hw_c y_Mod_put b_Mod_put 3 (some .int)) (hw_r 2) (va_Pc [.ref (zz_A z (20, 0)), .int (nI s9)] (zz_B z σ)) (va_Qi (fun r σ' => (∀ u : hw_P, u ≠ (29, 0) → u ≠ (30, 0) → σ' u = σ u) ∧ (∀ a, σ' (29, 0) a < 2) ∧ (∀ a, σ' (30, 0) a < 2) ∧ (∀ a, a < zz_N z → (σ' (29, 0) (128 * s9 + a) = 1 ↔ gp_gn (zz_N z) o (fun x => x < zz_N z ∧ σ (30, 0) x = 1) a)) ∧ (∀ i, ¬ (128 * s9 ≤ i ∧ i < 128 * s9 + zz_N z) → σ' (29, 0) i = σ (29, 0) i) ∧ r = nI (gp_cd (zz_N z) (gp_gn (zz_N z) o (fun x => x < zz_N z ∧ σ (30, 0) x = 1)))) (zz_B z) (zz_F z)) 0 0 (zz_F z) := by
  refine hw_meti (post := (fun r σ' => (∀ u : hw_P, u ≠ (29, 0) → u ≠ (30, 0) → σ' u = σ u) ∧ (∀ a, σ' (29, 0) a < 2) ∧ (∀ a, σ' (30, 0) a < 2) ∧ (∀ a, a < zz_N z → (σ' (29, 0) (128 * s9 + a) = 1 ↔ gp_gn (zz_N z) o (fun x => x < zz_N z ∧ σ (30, 0) x = 1) a)) ∧ (∀ i, ¬ (128 * s9 ≤ i ∧ i < 128 * s9 + zz_N z) → σ' (29, 0) i = σ (29, 0) i) ∧ r = nI (gp_cd (zz_N z) (gp_gn (zz_N z) o (fun x => x < zz_N z ∧ σ (30, 0) x = 1))))) (by decide) (Nat.le_of_ble_eq_true rfl) ?_
  intro p e s m args below meth c ls Q X hret V hl
  have hl : lv_has ls 3 [(0, .ref (zz_A z (20, 0))), (1, .int (nI s9))] := hl
  have hB := V.1.2.2
  obtain ⟨hn7, hN, hn, hNe, h29, h30, h31⟩ := id hD
  have g := hg.1
  refine nw_aload_n X d_Mod_put_0 rfl (lv_at hl 0 rfl) ?_
  refine hw_callv X V (hz (20, 0) rfl) rfl rfl (cm_Mod_close l z σ hz hD o hg) cs_Mod_98 (by decide) rfl hl.1 rfl (Nat.le_of_ble_eq_true rfl) (by decide) d_Mod_put_1 (fun σ0 H locs V hr => ?_)
  obtain ⟨f0, b0, c0⟩ := hr
  have hB := V.1.2.2
  refine nw_iconst X 0 d_Mod_put_4 (by decide) ?_
  refine nw_istore_n X (lv' := [(2, _), (0, _), (1, _)]) d_Mod_put_5 rfl hl (by decide) rfl (fun ls hl => ?_)
  have LP6 : ∀ (d a : Nat) (σ1 : hw_M) (H : Heap) (locs : List Loc) (ls : Array Slot), zz_N z - a < d → (a ≤ zz_N z) → (∀ u : hw_P, u ≠ (29, 0) → σ1 u = σ0 u) → (∀ a, σ1 (29, 0) a < 2) → (∀ y, y < a → σ1 (29, 0) (128 * s9 + y) = σ0 (30, 0) y) → (∀ i, ¬ (128 * s9 ≤ i ∧ i < 128 * s9 + zz_N z) → σ1 (29, 0) i = σ (29, 0) i) → zz_V z σ1 s.heap H locs →  lv_has ls 3 [(0, .ref (zz_A z (20, 0))), (1, .int (nI s9)), (2, .int (nI a))] →  W p l e (hw_r 2) s m args below meth c H locs 0 0 Q (F0 m 6 ls []) := by
    intro d
    induction d with
    | zero => intro a σ1 H locs ls hd; exact absurd hd (Nat.not_lt_zero _)
    | succ d IH6 =>
      intro a σ1 H locs ls hd haN hfr hb2 hv hout V hl
      have hB := V.1.2.2
      have e30 : σ1 (30, 0) = σ0 (30, 0) := hfr (30, 0) (hw_ne (by decide))
      have e20 : σ1 (20, 0) = σ (20, 0) := (hfr (20, 0) (hw_ne (by decide))).trans (f0 (20, 0) (hw_ne (by decide)))
      have hNe1 : σ1 (20, 0) 1 = zz_N z := by rw [e20]; exact hNe
      have e31 : σ1 (31, 0) = σ (31, 0) := (hfr (31, 0) (hw_ne (by decide))).trans (f0 (31, 0) (hw_ne (by decide)))
      refine nw_iload_n X d_Mod_put_6 rfl (lv_at hl 2 rfl) ?_
      refine nw_aload_n X d_Mod_put_7 rfl (lv_at hl 0 rfl) ?_
      refine gf_Mod_48 X V (hz (20, 0) rfl) d_Mod_put_8 ?_
      rw [hNe1]
      refine nw_icmp_ge X (tgt := 38) d_Mod_put_11 (by decide) (by first | assumption | omega) (by first | assumption | omega) (fun ha => ?_) (fun ha => ?_)
      · skip
        refine nw_aload_n X d_Mod_put_38 rfl (lv_at hl 0 rfl) ?_
        refine hw_calli X V (hz (20, 0) rfl) rfl rfl (cm_Mod_worked l z σ1 hz ⟨hn7, hN, by rw [e20]; exact hn, hNe1, hb2, by rw [e30]; exact b0, by rw [e31]; exact h31⟩) cs_Mod_94 (by decide) rfl hl.1 rfl (Nat.le_of_ble_eq_true rfl) (by decide) d_Mod_put_39 (fun r σ' H locs V hr => ?_)
        obtain ⟨hσ, rfl⟩ := hr
        rw [hσ] at V
        clear hσ
        have hB := V.1.2.2
        exact hret _ _ _ _ _ _ d_Mod_put_42 V ⟨fun u h1 h2 => (hfr u h1).trans (f0 u h2), hb2, by rw [e30]; exact b0, fun a9 h9 => by rw [hv a9 (by omega)]; exact c0 a9 h9, hout, by rw [e30, gp_cd_congr c0]⟩
      · skip
        refine nw_aload_n X d_Mod_put_14 rfl (lv_at hl 0 rfl) ?_
        refine gf_Mod_34 X V (hz (20, 0) rfl) d_Mod_put_15 ?_
        refine nw_sipush X 128 d_Mod_put_18 (by decide) ?_
        refine nw_iload_n X d_Mod_put_21 rfl (lv_at hl 1 rfl) ?_
        refine nw_imul X d_Mod_put_22 ?_
        refine nw_iload_n X d_Mod_put_23 rfl (lv_at hl 2 rfl) ?_
        refine nw_iadd X d_Mod_put_24 ?_
        refine nw_aload_n X d_Mod_put_25 rfl (lv_at hl 0 rfl) ?_
        refine gf_Mod_38 X V (hz (20, 0) rfl) d_Mod_put_26 ?_
        refine nw_iload_n X d_Mod_put_29 rfl (lv_at hl 2 rfl) ?_
        refine hw_zald X V (hz (30, 0) rfl) 1 rfl rfl (by omega) (by decide) d_Mod_put_30 ?_
        refine hw_zast X V (hz (29, 0) rfl) 1 (fun _ => rfl) rfl (by omega) (by decide) (by rw [e30]; exact b0 _) d_Mod_put_31 (fun H locs V => ?_)
        refine nw_iinc X (lv' := [(2, _), (0, _), (1, _)]) (k := 2) 1 d_Mod_put_32 hl rfl (by decide) (by decide) rfl (fun ls hl => ?_)
        refine nw_goto X (tgt := 6) d_Mod_put_35 (by decide) ?_
        exact IH6 (a + 1) _ _ _ _ (by omega) ha (fun u hu => (hw_up_k _ _ _ hu).trans (hfr u hu)) (md_up2 hb2 (by rw [e30]; exact b0 _)) (fun y hy => by rw [hw_up_v]; by_cases e : y = a; rw [if_pos (by omega), e30, e]; rw [if_neg (by omega)]; exact hv y (by omega)) (fun i hi => by rw [hw_up_i _ _ _ (by omega)]; exact hout i hi) V (lv_sub hl [1, 2, 0] rfl)
  exact LP6 (zz_N z + 1) 0 _ _ _ _ (by omega) (Nat.zero_le _) (fun _ _ => rfl) (by rw [f0 (29, 0) (hw_ne (by decide))]; exact h29) (fun y hy => absurd hy (Nat.not_lt_zero _)) (fun i _ => by rw [f0 (29, 0) (hw_ne (by decide))]) V (lv_sub hl [1, 2, 0] rfl)
